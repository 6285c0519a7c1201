set_option maxHeartbeats 1000000 in
set_option maxRecDepth 100000 in
theorem k_X9_isBy (l : Launch) (D : va_G) (cA : Nat → ClassId) (M : mp) (x : Int32)  : PC l D cA yX9_isBy wsX9_isBy 1 25 [.int x] M (some (.int (bI (byB x)))) := by
  refine PC.zz (cc := cX9_isBy) (maxL := 1) (by decide) rfl (Nat.le_of_ble_eq_true rfl) ?_
  intro p e s m args below meth c H Q ls B hM hl hret
  obtain ⟨hx, hb, hown, hts, hml, hK, hin⟩ := B
  have hown : s.vm.findClass RX9 = some m.cls := hown
  have hl : lv_has ls 1 [(0, .int x)] := hl
  have cst_93 := hts (.constantLong RX9 93 (9)) (by decide +kernel)
  refine lv_iload_n hx hb dX9_isBy_0 rfl (lv_at hl 0 rfl) ?_
  refine lv_i2l hx hb dX9_isBy_1 rfl ?_
  refine lv_lconst (v := 1) hx hb dX9_isBy_2 (by decide) ?_
  refine lv_ldc2 hx hb hown cst_93 dX9_isBy_3 ?_
  refine cpS (As := [.long ((x).toInt64), .long 1, .long 9]) (rest := []) (k_X9_in l D cA _ x.toInt64 1 9) ⟨hx, hb, hml, hown, hts⟩ (va_cwS 3 hts gX9_isBy_X9_in rfl rfl rfl (by decide +kernel) ⟨by decide, by decide⟩) hK hM rfl hl.1 rfl (Nat.le_of_ble_eq_true rfl) dX9_isBy_6 ⟨by decide, by decide⟩ ?_
  exact hret _ _ _ dX9_isBy_9 (rfl)
set_option maxHeartbeats 1000000 in
set_option maxRecDepth 100000 in
theorem k_X9_shares (l : Launch) (D : va_G) (cA : Nat → ClassId) (M : mp) (m0 : Nat) (a b : Int64)  : PC l D cA yX9_shares wsX9_shares 2 46 [.ref m0, .long a, .long b] M (some (.int (shV a b))) := by
  refine PC.it (cc := cX9_shares) (maxL := 5) (by decide) rfl (Nat.le_of_ble_eq_true rfl) ?_
  intro p e s m args below meth c H Q ls B hM hl hret
  obtain ⟨hx, hb, hown, hts, hml, hK, hin⟩ := B
  have hown : s.vm.findClass RX9 = some m.cls := hown
  have hl : lv_has ls 5 [(0, .ref m0), (1, .long a), (3, .long b)] := hl
  refine lv_lload_n hx hb dX9_shares_0 rfl (lv_at hl 1 rfl) ?_
  refine cpS (As := [.long a]) (rest := []) (k_X9_isHeap l D cA _ a) ⟨hx, hb, hml, hown, hts⟩ (va_cwS 1 hts gX9_shares_X9_isHeap rfl rfl rfl (by decide +kernel) ⟨by decide, by decide⟩) hK hM rfl hl.1 rfl (Nat.le_of_ble_eq_true rfl) dX9_shares_1 ⟨by decide, by decide⟩ ?_
  refine bz_eq (tgt := 14) hx hb dX9_shares_4 (by decide) (fun c_4 n_4 => ?_) (fun c_4 n_4 => ?_)
  · skip
    have h1 := bI_eq0 c_4
    refine lv_bipush (v := (-2)) hx hb dX9_shares_14 (by decide) ?_
    refine lv_goto (tgt := 32) hx hb dX9_shares_16 (by decide) ?_
    exact hret _ _ _ dX9_shares_32 (by simp [shV, h1])
  · skip
    have h1 := bI_ne0 c_4
    refine lv_lload_n hx hb dX9_shares_7 rfl (lv_at hl 2 rfl) ?_
    refine cpS (As := [.long b]) (rest := []) (k_X9_isHeap l D cA _ b) ⟨hx, hb, hml, hown, hts⟩ (va_cwS 1 hts gX9_shares_X9_isHeap rfl rfl rfl (by decide +kernel) ⟨by decide, by decide⟩) hK hM rfl hl.1 rfl (Nat.le_of_ble_eq_true rfl) dX9_shares_8 ⟨by decide, by decide⟩ ?_
    refine bz_ne (tgt := 19) hx hb dX9_shares_11 (by decide) (fun c_11 n_11 => ?_) (fun c_11 n_11 => ?_)
    · skip
      have h2 := bI_ne0 c_11
      obtain ⟨ea, la⟩ := hp_heap h1
      obtain ⟨eb, lb⟩ := hp_heap h2
      refine lv_lload_n hx hb dX9_shares_19 rfl (lv_at hl 1 rfl) ?_
      refine lv_lload_n hx hb dX9_shares_20 rfl (lv_at hl 2 rfl) ?_
      refine cpS (As := [.long a, .long b]) (rest := []) (by have h9 := k_X9_isShares l D cA M (nL a) (nL b) la lb; rw [← ea, ← eb] at h9; exact h9) ⟨hx, hb, hml, hown, hts⟩ (va_cwS 2 hts gX9_shares_X9_isShares rfl rfl rfl (by decide +kernel) ⟨by decide, by decide⟩) hK hM rfl hl.1 rfl (Nat.le_of_ble_eq_true rfl) dX9_shares_21 ⟨by decide, by decide⟩ ?_
      refine bz_eq (tgt := 31) hx hb dX9_shares_24 (by decide) (fun c_24 n_24 => ?_) (fun c_24 n_24 => ?_)
      · skip
        have h3 := bI_eq0 c_24
        refine lv_iconst (v := 0) hx hb dX9_shares_31 (by decide) ?_
        exact hret _ _ _ dX9_shares_32 (by simp [shV, h1, h2, h3, bI])
      · skip
        have h3 := bI_ne0 c_24
        refine lv_iconst (v := 1) hx hb dX9_shares_27 (by decide) ?_
        refine lv_goto (tgt := 32) hx hb dX9_shares_28 (by decide) ?_
        exact hret _ _ _ dX9_shares_32 (by simp [shV, h1, h2, h3, bI])
    · skip
      have h2 := bI_eq0 c_11
      refine lv_bipush (v := (-2)) hx hb dX9_shares_14 (by decide) ?_
      refine lv_goto (tgt := 32) hx hb dX9_shares_16 (by decide) ?_
      exact hret _ _ _ dX9_shares_32 (by simp [shV, h1, h2])
set_option maxHeartbeats 1000000 in
set_option maxRecDepth 100000 in
theorem k_X9_sharesMove (l : Launch) (D : va_G) (cA : Nat → ClassId) (M : mp) (m0 : Nat) (a b : Int64)  : PC l D cA yX9_sharesMove wsX9_sharesMove 2 46 [.ref m0, .long a, .long b] M (some (.long (smV a b))) := by
  refine PC.lg (cc := cX9_sharesMove) (maxL := 11) (by decide) rfl (Nat.le_of_ble_eq_true rfl) ?_
  intro p e s m args below meth c H Q ls B hM hl hret
  obtain ⟨hx, hb, hown, hts, hml, hK, hin⟩ := B
  have hown : s.vm.findClass RX9 = some m.cls := hown
  have hl : lv_has ls 11 [(0, .ref m0), (1, .long a), (3, .long b)] := hl
  have cst_62 := hts (.constantLong RX9 62 (-2)) (by decide +kernel)
  refine lv_lload_n hx hb dX9_sharesMove_0 rfl (lv_at hl 1 rfl) ?_
  refine cpS (As := [.long a]) (rest := []) (k_X9_isHeap l D cA _ a) ⟨hx, hb, hml, hown, hts⟩ (va_cwS 1 hts gX9_sharesMove_X9_isHeap rfl rfl rfl (by decide +kernel) ⟨by decide, by decide⟩) hK hM rfl hl.1 rfl (Nat.le_of_ble_eq_true rfl) dX9_sharesMove_1 ⟨by decide, by decide⟩ ?_
  refine bz_eq (tgt := 14) hx hb dX9_sharesMove_4 (by decide) (fun c_4 n_4 => ?_) (fun c_4 n_4 => ?_)
  · skip
    have h1 := bI_eq0 c_4
    refine lv_ldc2 hx hb hown cst_62 dX9_sharesMove_14 ?_
    exact hret _ _ _ dX9_sharesMove_17 (by simp [smV, h1])
  · skip
    have h1 := bI_ne0 c_4
    refine lv_lload_n hx hb dX9_sharesMove_7 rfl (lv_at hl 2 rfl) ?_
    refine cpS (As := [.long b]) (rest := []) (k_X9_isHeap l D cA _ b) ⟨hx, hb, hml, hown, hts⟩ (va_cwS 1 hts gX9_sharesMove_X9_isHeap rfl rfl rfl (by decide +kernel) ⟨by decide, by decide⟩) hK hM rfl hl.1 rfl (Nat.le_of_ble_eq_true rfl) dX9_sharesMove_8 ⟨by decide, by decide⟩ ?_
    refine bz_ne (tgt := 18) hx hb dX9_sharesMove_11 (by decide) (fun c_11 n_11 => ?_) (fun c_11 n_11 => ?_)
    · skip
      have h2 := bI_ne0 c_11
      obtain ⟨ea, la⟩ := hp_heap h1
      obtain ⟨eb, lb⟩ := hp_heap h2
      refine lv_lload_n hx hb dX9_sharesMove_18 rfl (lv_at hl 1 rfl) ?_
      refine lv_lload_n hx hb dX9_sharesMove_19 rfl (lv_at hl 2 rfl) ?_
      refine bl_le (tgt := 28) hx hb dX9_sharesMove_20 dX9_sharesMove_21 (by decide) (fun c_21 n_21 => ?_) (fun c_21 n_21 => ?_)
      · skip
        refine lv_lload_n hx hb dX9_sharesMove_28 rfl (lv_at hl 2 rfl) ?_
        refine lv_lstore (lv' := [(5, .long b), (0, .ref m0), (1, .long a), (3, .long b)]) hx hb dX9_sharesMove_29 hl (by decide) rfl (fun ls hl => ?_)
        refine lv_lload_n hx hb dX9_sharesMove_31 rfl (lv_at hl 2 rfl) ?_
        refine lv_lload_n hx hb dX9_sharesMove_32 rfl (lv_at hl 3 rfl) ?_
        refine bl_le (tgt := 41) hx hb dX9_sharesMove_33 dX9_sharesMove_34 (by decide) (fun c_34 n_34 => ?_) (fun c_34 n_34 => ?_)
        · skip
          refine lv_lload_n hx hb dX9_sharesMove_41 rfl (lv_at hl 2 rfl) ?_
          refine lv_lstore (lv' := [(7, .long a), (5, .long b), (0, .ref m0), (1, .long a), (3, .long b)]) hx hb dX9_sharesMove_42 hl (by decide) rfl (fun ls hl => ?_)
          have hab : nL a ≤ nL b := (ln_le (by omega) (by omega)).mp (by rw [← ea, ← eb]; exact c_21)
          have emx : max (nL a) (nL b) = nL b := by omega
          have emn : min (nL a) (nL b) = nL a := by omega
          refine lv_lload hx hb dX9_sharesMove_44 (lv_at hl 1 rfl) ?_
          refine lv_lload hx hb dX9_sharesMove_46 (lv_at hl 0 rfl) ?_
          refine cpS (As := [.long b, .long a]) (rest := []) (by have h9 := k_X9_isShares l D cA M (nL b) (nL a) lb la; rw [← eb, ← ea] at h9; exact h9) ⟨hx, hb, hml, hown, hts⟩ (va_cwS 2 hts gX9_sharesMove_X9_isShares rfl rfl rfl (by decide +kernel) ⟨by decide, by decide⟩) hK hM rfl hl.1 rfl (Nat.le_of_ble_eq_true rfl) dX9_sharesMove_48 ⟨by decide, by decide⟩ ?_
          refine bz_ne (tgt := 56) hx hb dX9_sharesMove_51 (by decide) (fun c_51 n_51 => ?_) (fun c_51 n_51 => ?_)
          · skip
            have h3 := bI_ne0 c_51
            have hq1 : 1 ≤ nL a := by rcases Nat.eq_zero_or_pos (nL a) with g | g; (rw [g, shF_0] at h3; cases h3); exact g
            have d1 : nL b / nL a * nL a ≤ nL b := Nat.div_mul_le_self _ _
            have hk1 : 1 ≤ nL b / nL a := (Nat.le_div_iff_mul_le (by omega)).mpr (by omega)
            have hkl : nL b / nL a ≤ nL b := Nat.div_le_self _ _
            have hkq : (nL b / nL a - 1) * nL a ≤ nL b := Nat.le_trans (Nat.mul_le_mul_right _ (Nat.sub_le _ _)) d1
            refine lv_lload hx hb dX9_sharesMove_56 (lv_at hl 1 rfl) ?_
            refine lv_lload hx hb dX9_sharesMove_58 (lv_at hl 0 rfl) ?_
            refine lv_ldiv hx hb dX9_sharesMove_60 (fun z => by have := (ln_eq (by omega) (by decide)).mp (show lN (nL a) = lN 0 by rw [← ea, z]; rfl); omega) ?_
            refine tpl (x' := lN (nL b / nL a)) (divL eb ea (by omega) (by omega) (by omega)) ?_
            refine lv_lstore (lv' := [(9, .long (lN (nL b / nL a))), (7, .long a), (5, .long b), (0, .ref m0), (1, .long a), (3, .long b)]) hx hb dX9_sharesMove_61 hl (by decide) rfl (fun ls hl => ?_)
            refine lv_lload hx hb dX9_sharesMove_63 (lv_at hl 0 rfl) ?_
            refine lv_lconst (v := 1) hx hb dX9_sharesMove_65 (by decide) ?_
            refine bl_le (tgt := 95) hx hb dX9_sharesMove_66 dX9_sharesMove_67 (by decide) (fun c_67 n_67 => ?_) (fun c_67 n_67 => ?_)
            · skip
              have h4 : ¬ 1 < nL b / nL a := fun z => n_67 (by rw [l_1]; exact (ln_lt (by decide) (by omega)).mpr z)
              refine lv_lload hx hb dX9_sharesMove_95 (lv_at hl 0 rfl) ?_
              exact hret _ _ _ dX9_sharesMove_97 (by simp [smV, h1, h2, emx, emn, smF, h3, h4])
            · skip
              have h4 : 1 < nL b / nL a := (ln_lt (by decide) (by omega)).mp (by rw [← l_1]; exact c_67)
              refine lv_lload hx hb dX9_sharesMove_70 (lv_at hl 2 rfl) ?_
              refine lv_lload hx hb dX9_sharesMove_72 (lv_at hl 0 rfl) ?_
              refine lv_lconst (v := 1) hx hb dX9_sharesMove_74 (by decide) ?_
              refine lv_lsub hx hb dX9_sharesMove_75 ?_
              refine tpl (x' := lN (nL b / nL a - 1)) (by rw [l_1]; exact lN_sub hk1) ?_
              refine lv_lload hx hb dX9_sharesMove_76 (lv_at hl 1 rfl) ?_
              refine lv_lmul hx hb dX9_sharesMove_78 ?_
              refine tpl (x' := lN ((nL b / nL a - 1) * nL a)) ((congrArg (lN (nL b / nL a - 1) * ·) ea).trans (lN_mul _ _)) ?_
              refine lv_lsub hx hb dX9_sharesMove_79 ?_
              refine tpl (x' := lN (nL b - (nL b / nL a - 1) * nL a)) ((congrArg (· - lN ((nL b / nL a - 1) * nL a)) eb).trans (lN_sub hkq)) ?_
              refine lv_lload hx hb dX9_sharesMove_80 (lv_at hl 1 rfl) ?_
              refine cpS (As := [.long (lN (nL b - (nL b / nL a - 1) * nL a)), .long a]) (rest := []) (by have h9 := k_X9_isShares l D cA M (nL b - (nL b / nL a - 1) * nL a) (nL a) (by omega) la; rw [← ea] at h9; exact h9) ⟨hx, hb, hml, hown, hts⟩ (va_cwS 2 hts gX9_sharesMove_X9_isShares rfl rfl rfl (by decide +kernel) ⟨by decide, by decide⟩) hK hM rfl hl.1 rfl (Nat.le_of_ble_eq_true rfl) dX9_sharesMove_82 ⟨by decide, by decide⟩ ?_
              refine bz_ne (tgt := 95) hx hb dX9_sharesMove_85 (by decide) (fun c_85 n_85 => ?_) (fun c_85 n_85 => ?_)
              · skip
                have h5 := bI_ne0 c_85
                refine lv_lload hx hb dX9_sharesMove_95 (lv_at hl 0 rfl) ?_
                exact hret _ _ _ dX9_sharesMove_97 (by simp [smV, h1, h2, emx, emn, smF, h3, h4, h5])
              · skip
                have h5 := bI_eq0 c_85
                refine lv_lload hx hb dX9_sharesMove_88 (lv_at hl 0 rfl) ?_
                refine lv_lconst (v := 1) hx hb dX9_sharesMove_90 (by decide) ?_
                refine lv_lsub hx hb dX9_sharesMove_91 ?_
                refine tpl (x' := lN (nL b / nL a - 1)) (by rw [l_1]; exact lN_sub hk1) ?_
                refine lv_goto (tgt := 97) hx hb dX9_sharesMove_92 (by decide) ?_
                exact hret _ _ _ dX9_sharesMove_97 (by simp [smV, h1, h2, emx, emn, smF, h3, h4, h5])
          · skip
            have h3 := bI_eq0 c_51
            refine lv_lconst (v := 0) hx hb dX9_sharesMove_54 (by decide) ?_
            exact hret _ _ _ dX9_sharesMove_55 (by simp [smV, h1, h2, emx, emn, smF, h3]; rfl)
        · exact absurd c_34 n_21
      · skip
        refine lv_lload_n hx hb dX9_sharesMove_24 rfl (lv_at hl 1 rfl) ?_
        refine lv_goto (tgt := 29) hx hb dX9_sharesMove_25 (by decide) ?_
        refine lv_lstore (lv' := [(5, .long a), (0, .ref m0), (1, .long a), (3, .long b)]) hx hb dX9_sharesMove_29 hl (by decide) rfl (fun ls hl => ?_)
        refine lv_lload_n hx hb dX9_sharesMove_31 rfl (lv_at hl 2 rfl) ?_
        refine lv_lload_n hx hb dX9_sharesMove_32 rfl (lv_at hl 3 rfl) ?_
        refine bl_le (tgt := 41) hx hb dX9_sharesMove_33 dX9_sharesMove_34 (by decide) (fun c_34 n_34 => ?_) (fun c_34 n_34 => ?_)
        · exact absurd c_34 n_21
        · skip
          refine lv_lload_n hx hb dX9_sharesMove_37 rfl (lv_at hl 3 rfl) ?_
          refine lv_goto (tgt := 42) hx hb dX9_sharesMove_38 (by decide) ?_
          refine lv_lstore (lv' := [(7, .long b), (5, .long a), (0, .ref m0), (1, .long a), (3, .long b)]) hx hb dX9_sharesMove_42 hl (by decide) rfl (fun ls hl => ?_)
          have hab : nL b < nL a := (ln_lt (by omega) (by omega)).mp (by rw [← ea, ← eb]; exact c_21)
          have emx : max (nL a) (nL b) = nL a := by omega
          have emn : min (nL a) (nL b) = nL b := by omega
          refine lv_lload hx hb dX9_sharesMove_44 (lv_at hl 1 rfl) ?_
          refine lv_lload hx hb dX9_sharesMove_46 (lv_at hl 0 rfl) ?_
          refine cpS (As := [.long a, .long b]) (rest := []) (by have h9 := k_X9_isShares l D cA M (nL a) (nL b) la lb; rw [← ea, ← eb] at h9; exact h9) ⟨hx, hb, hml, hown, hts⟩ (va_cwS 2 hts gX9_sharesMove_X9_isShares rfl rfl rfl (by decide +kernel) ⟨by decide, by decide⟩) hK hM rfl hl.1 rfl (Nat.le_of_ble_eq_true rfl) dX9_sharesMove_48 ⟨by decide, by decide⟩ ?_
          refine bz_ne (tgt := 56) hx hb dX9_sharesMove_51 (by decide) (fun c_51 n_51 => ?_) (fun c_51 n_51 => ?_)
          · skip
            have h3 := bI_ne0 c_51
            have hq1 : 1 ≤ nL b := by rcases Nat.eq_zero_or_pos (nL b) with g | g; (rw [g, shF_0] at h3; cases h3); exact g
            have d1 : nL a / nL b * nL b ≤ nL a := Nat.div_mul_le_self _ _
            have hk1 : 1 ≤ nL a / nL b := (Nat.le_div_iff_mul_le (by omega)).mpr (by omega)
            have hkl : nL a / nL b ≤ nL a := Nat.div_le_self _ _
            have hkq : (nL a / nL b - 1) * nL b ≤ nL a := Nat.le_trans (Nat.mul_le_mul_right _ (Nat.sub_le _ _)) d1
            refine lv_lload hx hb dX9_sharesMove_56 (lv_at hl 1 rfl) ?_
            refine lv_lload hx hb dX9_sharesMove_58 (lv_at hl 0 rfl) ?_
            refine lv_ldiv hx hb dX9_sharesMove_60 (fun z => by have := (ln_eq (by omega) (by decide)).mp (show lN (nL b) = lN 0 by rw [← eb, z]; rfl); omega) ?_
            refine tpl (x' := lN (nL a / nL b)) (divL ea eb (by omega) (by omega) (by omega)) ?_
            refine lv_lstore (lv' := [(9, .long (lN (nL a / nL b))), (7, .long b), (5, .long a), (0, .ref m0), (1, .long a), (3, .long b)]) hx hb dX9_sharesMove_61 hl (by decide) rfl (fun ls hl => ?_)
            refine lv_lload hx hb dX9_sharesMove_63 (lv_at hl 0 rfl) ?_
            refine lv_lconst (v := 1) hx hb dX9_sharesMove_65 (by decide) ?_
            refine bl_le (tgt := 95) hx hb dX9_sharesMove_66 dX9_sharesMove_67 (by decide) (fun c_67 n_67 => ?_) (fun c_67 n_67 => ?_)
            · skip
              have h4 : ¬ 1 < nL a / nL b := fun z => n_67 (by rw [l_1]; exact (ln_lt (by decide) (by omega)).mpr z)
              refine lv_lload hx hb dX9_sharesMove_95 (lv_at hl 0 rfl) ?_
              exact hret _ _ _ dX9_sharesMove_97 (by simp [smV, h1, h2, emx, emn, smF, h3, h4])
            · skip
              have h4 : 1 < nL a / nL b := (ln_lt (by decide) (by omega)).mp (by rw [← l_1]; exact c_67)
              refine lv_lload hx hb dX9_sharesMove_70 (lv_at hl 2 rfl) ?_
              refine lv_lload hx hb dX9_sharesMove_72 (lv_at hl 0 rfl) ?_
              refine lv_lconst (v := 1) hx hb dX9_sharesMove_74 (by decide) ?_
              refine lv_lsub hx hb dX9_sharesMove_75 ?_
              refine tpl (x' := lN (nL a / nL b - 1)) (by rw [l_1]; exact lN_sub hk1) ?_
              refine lv_lload hx hb dX9_sharesMove_76 (lv_at hl 1 rfl) ?_
              refine lv_lmul hx hb dX9_sharesMove_78 ?_
              refine tpl (x' := lN ((nL a / nL b - 1) * nL b)) ((congrArg (lN (nL a / nL b - 1) * ·) eb).trans (lN_mul _ _)) ?_
              refine lv_lsub hx hb dX9_sharesMove_79 ?_
              refine tpl (x' := lN (nL a - (nL a / nL b - 1) * nL b)) ((congrArg (· - lN ((nL a / nL b - 1) * nL b)) ea).trans (lN_sub hkq)) ?_
              refine lv_lload hx hb dX9_sharesMove_80 (lv_at hl 1 rfl) ?_
              refine cpS (As := [.long (lN (nL a - (nL a / nL b - 1) * nL b)), .long b]) (rest := []) (by have h9 := k_X9_isShares l D cA M (nL a - (nL a / nL b - 1) * nL b) (nL b) (by omega) lb; rw [← eb] at h9; exact h9) ⟨hx, hb, hml, hown, hts⟩ (va_cwS 2 hts gX9_sharesMove_X9_isShares rfl rfl rfl (by decide +kernel) ⟨by decide, by decide⟩) hK hM rfl hl.1 rfl (Nat.le_of_ble_eq_true rfl) dX9_sharesMove_82 ⟨by decide, by decide⟩ ?_
              refine bz_ne (tgt := 95) hx hb dX9_sharesMove_85 (by decide) (fun c_85 n_85 => ?_) (fun c_85 n_85 => ?_)
              · skip
                have h5 := bI_ne0 c_85
                refine lv_lload hx hb dX9_sharesMove_95 (lv_at hl 0 rfl) ?_
                exact hret _ _ _ dX9_sharesMove_97 (by simp [smV, h1, h2, emx, emn, smF, h3, h4, h5])
              · skip
                have h5 := bI_eq0 c_85
                refine lv_lload hx hb dX9_sharesMove_88 (lv_at hl 0 rfl) ?_
                refine lv_lconst (v := 1) hx hb dX9_sharesMove_90 (by decide) ?_
                refine lv_lsub hx hb dX9_sharesMove_91 ?_
                refine tpl (x' := lN (nL a / nL b - 1)) (by rw [l_1]; exact lN_sub hk1) ?_
                refine lv_goto (tgt := 97) hx hb dX9_sharesMove_92 (by decide) ?_
                exact hret _ _ _ dX9_sharesMove_97 (by simp [smV, h1, h2, emx, emn, smF, h3, h4, h5])
          · skip
            have h3 := bI_eq0 c_51
            refine lv_lconst (v := 0) hx hb dX9_sharesMove_54 (by decide) ?_
            exact hret _ _ _ dX9_sharesMove_55 (by simp [smV, h1, h2, emx, emn, smF, h3]; rfl)
    · skip
      have h2 := bI_eq0 c_11
      refine lv_ldc2 hx hb hown cst_62 dX9_sharesMove_14 ?_
      exact hret _ _ _ dX9_sharesMove_17 (by simp [smV, h1, h2])
set_option maxHeartbeats 1000000 in
set_option maxRecDepth 100000 in
theorem k_X9_both (l : Launch) (D : va_G) (cA : Nat → ClassId) (M : mp) (m0 : Nat) (a b : Int64) (hF : fibW cA M m0)  : PC l D cA yX9_both wsX9_both 2 51 [.ref m0, .long a, .long b] M (some (.int (boV a b))) := by
  refine PC.it (cc := cX9_both) (maxL := 5) (by decide) rfl (Nat.le_of_ble_eq_true rfl) ?_
  intro p e s m args below meth c H Q ls B hM hl hret
  obtain ⟨hx, hb, hown, hts, hml, hK, hin⟩ := B
  have hown : s.vm.findClass RX9 = some m.cls := hown
  have hl : lv_has ls 5 [(0, .ref m0), (1, .long a), (3, .long b)] := hl
  have hF0 := hF
  obtain ⟨v, fb, f, hR, hv0, hfb, hf⟩ := hF
  refine lv_lload_n hx hb dX9_both_0 rfl (lv_at hl 1 rfl) ?_
  refine cpS (As := [.long a]) (rest := []) (k_X9_isHeap l D cA _ a) ⟨hx, hb, hml, hown, hts⟩ (va_cwS 1 hts gX9_both_X9_isHeap rfl rfl rfl (by decide +kernel) ⟨by decide, by decide⟩) hK hM rfl hl.1 rfl (Nat.le_of_ble_eq_true rfl) dX9_both_1 ⟨by decide, by decide⟩ ?_
  refine bz_eq (tgt := 14) hx hb dX9_both_4 (by decide) (fun c_4 n_4 => ?_) (fun c_4 n_4 => ?_)
  · skip
    have h1 := bI_eq0 c_4
    refine lv_bipush (v := (-2)) hx hb dX9_both_14 (by decide) ?_
    refine lv_goto (tgt := 33) hx hb dX9_both_16 (by decide) ?_
    exact hret _ _ _ dX9_both_33 (by simp [boV, h1])
  · skip
    have h1 := bI_ne0 c_4
    refine lv_lload_n hx hb dX9_both_7 rfl (lv_at hl 2 rfl) ?_
    refine cpS (As := [.long b]) (rest := []) (k_X9_isHeap l D cA _ b) ⟨hx, hb, hml, hown, hts⟩ (va_cwS 1 hts gX9_both_X9_isHeap rfl rfl rfl (by decide +kernel) ⟨by decide, by decide⟩) hK hM rfl hl.1 rfl (Nat.le_of_ble_eq_true rfl) dX9_both_8 ⟨by decide, by decide⟩ ?_
    refine bz_ne (tgt := 19) hx hb dX9_both_11 (by decide) (fun c_11 n_11 => ?_) (fun c_11 n_11 => ?_)
    · skip
      have h2 := bI_ne0 c_11
      obtain ⟨ea, la⟩ := hp_heap h1
      obtain ⟨eb, lb⟩ := hp_heap h2
      refine lv_aload_n hx hb dX9_both_19 rfl (lv_at hl 0 rfl) ?_
      refine lv_lload_n hx hb dX9_both_20 rfl (lv_at hl 1 rfl) ?_
      refine lv_lload_n hx hb dX9_both_21 rfl (lv_at hl 2 rfl) ?_
      refine cpV (As := [.long a, .long b]) (rest := []) (by have h9 := k_X9_isBoth l D cA M m0 (nL a) (nL b) hF0 la lb; rw [← ea, ← eb] at h9; exact h9) ⟨hx, hb, hml, hown, hts⟩ (cwV 2 hts gX9_both_X9_isBoth rfl rfl rfl (by decide +kernel) ⟨by decide, by decide⟩) hK hM hR rfl rfl hl.1 rfl (Nat.le_of_ble_eq_true rfl) dX9_both_22 ⟨by decide, by decide⟩ ?_
      refine bz_eq (tgt := 32) hx hb dX9_both_25 (by decide) (fun c_25 n_25 => ?_) (fun c_25 n_25 => ?_)
      · skip
        have h3 := bI_eq0 c_25
        refine lv_iconst (v := 0) hx hb dX9_both_32 (by decide) ?_
        exact hret _ _ _ dX9_both_33 (by simp [boV, h1, h2, h3, bI])
      · skip
        have h3 := bI_ne0 c_25
        refine lv_iconst (v := 1) hx hb dX9_both_28 (by decide) ?_
        refine lv_goto (tgt := 33) hx hb dX9_both_29 (by decide) ?_
        exact hret _ _ _ dX9_both_33 (by simp [boV, h1, h2, h3, bI])
    · skip
      have h2 := bI_eq0 c_11
      refine lv_bipush (v := (-2)) hx hb dX9_both_14 (by decide) ?_
      refine lv_goto (tgt := 33) hx hb dX9_both_16 (by decide) ?_
      exact hret _ _ _ dX9_both_33 (by simp [boV, h1, h2])
set_option maxHeartbeats 1000000 in
set_option maxRecDepth 100000 in
theorem k_X9_lost (l : Launch) (D : va_G) (cA : Nat → ClassId) (M : mp) (m0 : Nat) (k : Int64) (w : Int32) (hF : fibW cA M m0)  : PC l D cA yX9_lost wsX9_lost 1 27 [.ref m0, .long k, .int w] M (some (.long (loV k w))) := by
  refine PC.lg (cc := cX9_lost) (maxL := 4) (by decide) rfl (Nat.le_of_ble_eq_true rfl) ?_
  intro p e s m args below meth c H Q ls B hM hl hret
  obtain ⟨hx, hb, hown, hts, hml, hK, hin⟩ := B
  have hown : s.vm.findClass RX9 = some m.cls := hown
  have hl : lv_has ls 4 [(0, .ref m0), (1, .long k), (3, .int w)] := hl
  have cst_88 := hts (.constantLong RX9 88 (300000000000)) (by decide +kernel)
  have cst_62 := hts (.constantLong RX9 62 (-2)) (by decide +kernel)
  have hF0 := hF
  obtain ⟨v, fb, f, hR, hv0, hfb, hf⟩ := hF
  refine lv_lload_n hx hb dX9_lost_0 rfl (lv_at hl 1 rfl) ?_
  refine lv_lconst (v := 0) hx hb dX9_lost_1 (by decide) ?_
  refine lv_ldc2 hx hb hown cst_88 dX9_lost_2 ?_
  refine cpS (As := [.long k, .long 0, .long 300000000000]) (rest := []) (k_X9_in l D cA _ (k) 0 300000000000) ⟨hx, hb, hml, hown, hts⟩ (va_cwS 3 hts gX9_lost_X9_in rfl rfl rfl (by decide +kernel) ⟨by decide, by decide⟩) hK hM rfl hl.1 rfl (Nat.le_of_ble_eq_true rfl) dX9_lost_5 ⟨by decide, by decide⟩ ?_
  refine bz_eq (tgt := 21) hx hb dX9_lost_8 (by decide) (fun c_8 n_8 => ?_) (fun c_8 n_8 => ?_)
  · skip
    have h1 := bI_eq0 c_8
    refine lv_ldc2 hx hb hown cst_62 dX9_lost_21 ?_
    exact hret _ _ _ dX9_lost_24 (by simp [loV, h1])
  · skip
    have h1 := bI_ne0 c_8
    refine lv_iload_n hx hb dX9_lost_11 rfl (lv_at hl 2 rfl) ?_
    refine lv_i2l hx hb dX9_lost_12 rfl ?_
    refine lv_lconst (v := 0) hx hb dX9_lost_13 (by decide) ?_
    refine lv_lconst (v := 1) hx hb dX9_lost_14 (by decide) ?_
    refine cpS (As := [.long ((w).toInt64), .long 0, .long 1]) (rest := []) (k_X9_in l D cA _ (w.toInt64) 0 1) ⟨hx, hb, hml, hown, hts⟩ (va_cwS 3 hts gX9_lost_X9_in rfl rfl rfl (by decide +kernel) ⟨by decide, by decide⟩) hK hM rfl hl.1 rfl (Nat.le_of_ble_eq_true rfl) dX9_lost_15 ⟨by decide, by decide⟩ ?_
    refine bz_ne (tgt := 25) hx hb dX9_lost_18 (by decide) (fun c_18 n_18 => ?_) (fun c_18 n_18 => ?_)
    · skip
      have h2 := bI_ne0 c_18
      obtain ⟨ek, lk⟩ := hp_of (K := 300000000000) (by decide) (by decide) h1
      refine lv_iload_n hx hb dX9_lost_25 rfl (lv_at hl 2 rfl) ?_
      refine bz_ne (tgt := 37) hx hb dX9_lost_26 (by decide) (fun c_26 n_26 => ?_) (fun c_26 n_26 => ?_)
      · skip
        refine lv_aload_n hx hb dX9_lost_37 rfl (lv_at hl 0 rfl) ?_
        refine lv_lload_n hx hb dX9_lost_38 rfl (lv_at hl 1 rfl) ?_
        refine cpV (As := [.long k]) (rest := []) (by have h9 := k_X9_lesser l D cA M m0 (nL k) hF0 (by omega); rw [← ek] at h9; exact h9) ⟨hx, hb, hml, hown, hts⟩ (cwV 1 hts gX9_lost_X9_lesser rfl rfl rfl (by decide +kernel) ⟨by decide, by decide⟩) hK hM hR rfl rfl hl.1 rfl (Nat.le_of_ble_eq_true rfl) dX9_lost_39 ⟨by decide, by decide⟩ ?_
        refine lv_lload_n hx hb dX9_lost_42 rfl (lv_at hl 1 rfl) ?_
        refine lv_ladd hx hb dX9_lost_43 ?_
        refine tpl (x' := lN (cutF (nL k) + nL k)) ((congrArg (lN (cutF (nL k)) + ·) ek).trans (lN_add _ _)) ?_
        exact hret _ _ _ dX9_lost_44 (by unfold loV; rw [h1, h2]; simp [c_26])
      · skip
        refine lv_aload_n hx hb dX9_lost_29 rfl (lv_at hl 0 rfl) ?_
        refine lv_lload_n hx hb dX9_lost_30 rfl (lv_at hl 1 rfl) ?_
        refine cpV (As := [.long k]) (rest := []) (by have h9 := k_X9_lesser l D cA M m0 (nL k) hF0 (by omega); rw [← ek] at h9; exact h9) ⟨hx, hb, hml, hown, hts⟩ (cwV 1 hts gX9_lost_X9_lesser rfl rfl rfl (by decide +kernel) ⟨by decide, by decide⟩) hK hM hR rfl rfl hl.1 rfl (Nat.le_of_ble_eq_true rfl) dX9_lost_31 ⟨by decide, by decide⟩ ?_
        refine lv_goto (tgt := 44) hx hb dX9_lost_34 (by decide) ?_
        exact hret _ _ _ dX9_lost_44 (by unfold loV; rw [h1, h2]; simp [c_26])
    · skip
      have h2 := bI_eq0 c_18
      refine lv_ldc2 hx hb hown cst_62 dX9_lost_21 ?_
      exact hret _ _ _ dX9_lost_24 (by simp [loV, h1, h2])
set_option maxHeartbeats 1000000 in
set_option maxRecDepth 100000 in
theorem k_X9_lostOf (l : Launch) (D : va_G) (cA : Nat → ClassId) (M : mp) (m0 : Nat) (v : Nat → Value) (fb : Nat) (f : Nat → Int64) (ra : Nat) (f0 : Nat → Int64) (a : Int64) (w : Int32) (hR : M m0 = some (.inr (9, rL v))) (hv0 : v 0 = .ref fb) (hfb : M fb = some (.inl (cA 0, 64, .inr (.inl f)))) (hf : ∀ j, j < 64 → f j = lN (fibN j)) (hv1 : v 1 = .ref ra) (hrw : M ra = some (.inl (cA 0, 500, .inr (.inl f0))))  : MC l D cA yX9_lostOf wsX9_lostOf 2 55 0 0 [.ref m0, .long a, .int w] M (fun r M' => r = some (.long (ofV a w)) ∧ scr cA M M' m0 ra v) := by
  refine MC.of (cc := cX9_lostOf) (maxL := 4) (ret := (some .long)) (by decide) rfl (Nat.le_of_ble_eq_true rfl) ?_
  intro p e s m args below meth c Q ls B hh hl hretv hreti hretz hretl hreta
  obtain ⟨hx, hb, hown, hts, hml, hK, hin⟩ := B
  have hM := hh.1
  have hM_0 := hh.1
  have hkp : kpL M M [m0, ra] := kpL.rf M _
  have hown : s.vm.findClass RX9 = some m.cls := hown
  have hl : lv_has ls 4 [(0, .ref m0), (1, .long a), (3, .int w)] := hl
  have cst_62 := hts (.constantLong RX9 62 (-2)) (by decide +kernel)
  have in_X9 : ∀ w ∈ wsX90, w ∈ wsX9_lostOf := by decide +kernel
  have fl_75 := hts (.fieldLink RX9 75 "GoldHeapsModel" "foundLesser" "Z") (by decide +kernel)
  have fl_71 := hts (.fieldLink RX9 71 "GoldHeapsModel" "foundK" "J") (by decide +kernel)
  refine lv_lload_n hx hb dX9_lostOf_0 rfl (lv_at hl 1 rfl) ?_
  refine cpS (As := [.long a]) (rest := []) (k_X9_isHeap l D cA _ a) ⟨hx, hb, hml, hown, hts⟩ (va_cwS 1 hts gX9_lostOf_X9_isHeap rfl rfl rfl (by decide +kernel) ⟨by decide, by decide⟩) hK hM rfl hl.1 rfl (Nat.le_of_ble_eq_true rfl) dX9_lostOf_1 ⟨by decide, by decide⟩ ?_
  refine bz_eq (tgt := 17) hx hb dX9_lostOf_4 (by decide) (fun c_4 n_4 => ?_) (fun c_4 n_4 => ?_)
  · skip
    have h1 := bI_eq0 c_4
    refine lv_ldc2 hx hb hown cst_62 dX9_lostOf_17 ?_
    exact hretl _ _ _ _ _ _ _ _ hh (⟨by simp [ofV, h1], ⟨v, _, hR, fun _ _ _ _ _ => rfl, hrw, hkp⟩⟩) (by decide) (by decide) dX9_lostOf_20 rfl
  · skip
    have h1 := bI_ne0 c_4
    refine lv_iload_n hx hb dX9_lostOf_7 rfl (lv_at hl 2 rfl) ?_
    refine lv_i2l hx hb dX9_lostOf_8 rfl ?_
    refine lv_lconst (v := 0) hx hb dX9_lostOf_9 (by decide) ?_
    refine lv_lconst (v := 1) hx hb dX9_lostOf_10 (by decide) ?_
    refine cpS (As := [.long ((w).toInt64), .long 0, .long 1]) (rest := []) (k_X9_in l D cA _ (w.toInt64) 0 1) ⟨hx, hb, hml, hown, hts⟩ (va_cwS 3 hts gX9_lostOf_X9_in rfl rfl rfl (by decide +kernel) ⟨by decide, by decide⟩) hK hM rfl hl.1 rfl (Nat.le_of_ble_eq_true rfl) dX9_lostOf_11 ⟨by decide, by decide⟩ ?_
    refine bz_ne (tgt := 21) hx hb dX9_lostOf_14 (by decide) (fun c_14 n_14 => ?_) (fun c_14 n_14 => ?_)
    · skip
      have h2 := bI_ne0 c_14
      obtain ⟨ea, la⟩ := hp_heap h1
      refine lv_aload_n hx hb dX9_lostOf_21 rfl (lv_at hl 0 rfl) ?_
      refine lv_lload_n hx hb dX9_lostOf_22 rfl (lv_at hl 1 rfl) ?_
      refine cmV (As := [.long a]) (rest := []) (by have h9 := k_X9_find l D cA _ m0 v fb f (nL a) hR hv0 hfb hf la; rw [← ea] at h9; exact h9) ⟨hx, hb, hml, hown, hts⟩ (cwV 1 hts gX9_lostOf_X9_find rfl rfl rfl (by decide +kernel) ⟨by decide, by decide⟩) hK hh hR rfl rfl hl.1 rfl (Nat.le_of_ble_eq_true rfl) dX9_lostOf_23 ⟨by decide, by decide⟩ (fun v9 M1 H1 locs1 hpost hh hz9 hk9 hn9 => ?_)
      obtain ⟨rfl, ⟨v1, hR1, hv15, hv16, hag⟩, hkc⟩ := hpost
      have hfb : M1 fb = some (.inl (cA 0, 64, .inr (.inl f))) := hkc.k1 hR hfb (by simp)
      have hrw : M1 ra = some (.inl (cA 0, 500, .inr (.inl f0))) := hkc.k1 hR hrw (by simp)
      have hR : M1 m0 = some (.inr (9, rL v1)) := hR1
      have hkp := hkp.call hkc (by simp)
      have hM := hh.1
      refine W.eq (g2 := F0 m 26 ls []) rfl ?_
      refine lv_iload_n hx hb dX9_lostOf_26 rfl (lv_at hl 2 rfl) ?_
      refine bz_ne (tgt := 37) hx hb dX9_lostOf_27 (by decide) (fun c_27 n_27 => ?_) (fun c_27 n_27 => ?_)
      · skip
        refine lv_aload_n hx hb dX9_lostOf_37 rfl (lv_at hl 0 rfl) ?_
        refine m_get (ci := 9) (C := RX9) (T := TX9) (N := 18) (v := v1 16) hx hb hts in_X9 hown hK hM hR rfl 16 (by decide) fl_75 (fun _ h => h) rfl dX9_lostOf_38 ?_
        refine tpv (hv16) ?_
        refine bz_eq (tgt := 48) hx hb dX9_lostOf_41 (by decide) (fun c_41 n_41 => ?_) (fun c_41 n_41 => ?_)
        · skip
          have h3 := bI_eq0 c_41
          refine lv_lconst (v := 0) hx hb dX9_lostOf_48 (by decide) ?_
          exact hretl _ _ _ _ _ _ _ _ hh (⟨by unfold ofV; rw [show hpB a = true from h1, h2]; simp [c_27, h3, bI], ⟨v1, _, hR, fun k h1 h2 h3 h4 => hag k h2 h3, hrw, hkp⟩⟩) (by decide) (by decide) dX9_lostOf_49 rfl
        · skip
          have h3 := bI_ne0 c_41
          refine lv_lconst (v := 1) hx hb dX9_lostOf_44 (by decide) ?_
          refine lv_goto (tgt := 49) hx hb dX9_lostOf_45 (by decide) ?_
          exact hretl _ _ _ _ _ _ _ _ hh (⟨by unfold ofV; rw [show hpB a = true from h1, h2]; simp [c_27, h3, bI], ⟨v1, _, hR, fun k h1 h2 h3 h4 => hag k h2 h3, hrw, hkp⟩⟩) (by decide) (by decide) dX9_lostOf_49 rfl
      · skip
        refine lv_aload_n hx hb dX9_lostOf_30 rfl (lv_at hl 0 rfl) ?_
        refine m_get (ci := 9) (C := RX9) (T := TX9) (N := 18) (v := v1 15) hx hb hts in_X9 hown hK hM hR rfl 15 (by decide) fl_71 (fun _ h => h) rfl dX9_lostOf_31 ?_
        refine tpv (hv15) ?_
        refine lv_goto (tgt := 49) hx hb dX9_lostOf_34 (by decide) ?_
        exact hretl _ _ _ _ _ _ _ _ hh (⟨by unfold ofV; rw [show hpB a = true from h1, h2]; simp [c_27], ⟨v1, _, hR, fun k h1 h2 h3 h4 => hag k h2 h3, hrw, hkp⟩⟩) (by decide) (by decide) dX9_lostOf_49 rfl
    · skip
      have h2 := bI_eq0 c_14
      refine lv_ldc2 hx hb hown cst_62 dX9_lostOf_17 ?_
      exact hretl _ _ _ _ _ _ _ _ hh (⟨by simp [ofV, h1, h2], ⟨v, _, hR, fun _ _ _ _ _ => rfl, hrw, hkp⟩⟩) (by decide) (by decide) dX9_lostOf_20 rfl
