set_option maxHeartbeats 4000000 in
set_option maxRecDepth 100000 in
theorem k_X9_isShares (l : Launch) (D : va_G) (cA : Nat → ClassId) (M : mp) (a b : Nat) (ha : a ≤ 1000000000000) (hb0 : b ≤ 1000000000000) : PC l D cA yX9_isShares wsX9_isShares 0 0 [.long (lN a), .long (lN b)] M (some (.int (bI (shF a b)))) := by
  refine PC.zz (cc := cX9_isShares) (maxL := 11) (by decide) rfl (Nat.le_of_ble_eq_true rfl) ?_
  intro p e s m args below meth c H Q ls B hM hl hret
  obtain ⟨hx, hb, hown, hts, hml, hK, hin⟩ := B
  have hown : s.vm.findClass RX9 = some m.cls := hown
  have hl : lv_has ls 11 [(0, .long (lN a)), (2, .long (lN b))] := hl
  have cst_46 := hts (.constantLong RX9 46 (2)) (by decide +kernel)
  have j_29 : ∀ (fu : Nat) (p0 q : Nat) (tu : Bool) (ls : Array Slot), (q ≤ p0) → (p0 ≤ 1000000000000) → ((tu != shF p0 q) = shF a b) → (q < fu) → lv_has ls 11 [(4, .long (lN p0)), (6, .long (lN q)), (8, .int (bI tu))] → W p l e ({ frames := 0, cells := 0, slots := 0, locals := 0 } : Room) s m args below meth c H [] 0 0 Q (F0 m 29 ls []) := by
    intro fu
    induction fu with
    | zero => intro p0 q tu ls hqp hp hs hm _; exact absurd hm (Nat.not_lt_zero _)
    | succ fu ih =>
      intro p0 q tu ls hqp hp hs hm hl
      refine lv_lload hx hb dX9_isShares_29 (lv_at hl 1 rfl) ?_
      refine lv_lconst (v := 0) hx hb dX9_isShares_31 (by decide) ?_
      refine bl_eq (tgt := 97) hx hb dX9_isShares_32 dX9_isShares_33 (by decide) (fun c_33 n_33 => ?_) (fun c_33 n_33 => ?_)
      · skip
        have hq0 : q = 0 := (ln_eq (by omega) (by decide)).mp (by rw [← l_0]; exact c_33)
        refine lv_iload hx hb dX9_isShares_97 (lv_at hl 2 rfl) ?_
        exact hret _ _ _ dX9_isShares_99 (by rw [← hs, hq0, shF_0]; cases tu <;> rfl)
      · skip
        have hq1 : 1 ≤ q := by rcases Nat.eq_zero_or_pos q with g | g; exact absurd (by rw [g]; rfl) c_33; exact g
        refine lv_lload hx hb dX9_isShares_36 (lv_at hl 0 rfl) ?_
        refine lv_lload hx hb dX9_isShares_38 (lv_at hl 1 rfl) ?_
        refine bl_eq (tgt := 56) hx hb dX9_isShares_40 dX9_isShares_41 (by decide) (fun c_41 n_41 => ?_) (fun c_41 n_41 => ?_)
        · skip
          have hbig : shF p0 q = true := shF_big hq1 (by omega) (Or.inl ((ln_eq (by omega) (by omega)).mp c_41))
          refine lv_iload hx hb dX9_isShares_56 (lv_at hl 2 rfl) ?_
          refine bz_ne (tgt := 65) hx hb dX9_isShares_58 (by decide) (fun c_58 n_58 => ?_) (fun c_58 n_58 => ?_)
          · skip
            have ht := bI_ne0 c_58
            refine lv_iconst (v := 0) hx hb dX9_isShares_65 (by decide) ?_
            exact hret _ _ _ dX9_isShares_66 (by rw [← hs, ht, hbig]; rfl)
          · skip
            have ht := bI_eq0 c_58
            refine lv_iconst (v := 1) hx hb dX9_isShares_61 (by decide) ?_
            refine lv_goto (tgt := 66) hx hb dX9_isShares_62 (by decide) ?_
            exact hret _ _ _ dX9_isShares_66 (by rw [← hs, ht, hbig]; rfl)
        · skip
          have hne : p0 ≠ q := fun z => c_41 (by rw [z])
          refine lv_lload hx hb dX9_isShares_44 (lv_at hl 0 rfl) ?_
          refine lv_ldc2 hx hb hown cst_46 dX9_isShares_46 ?_
          refine lv_lload hx hb dX9_isShares_49 (lv_at hl 1 rfl) ?_
          refine lv_lmul hx hb dX9_isShares_51 ?_
          refine tpl (x' := lN (2 * q)) (by rw [l_2]; exact lN_mul _ _) ?_
          refine bl_lt (tgt := 67) hx hb dX9_isShares_52 dX9_isShares_53 (by decide) (fun c_53 n_53 => ?_) (fun c_53 n_53 => ?_)
          · skip
            have h2 : p0 < 2 * q := (ln_lt (by omega) (by omega)).mp c_53
            have hlt : q < p0 := by omega
            refine lv_lload hx hb dX9_isShares_67 (lv_at hl 0 rfl) ?_
            refine lv_lload hx hb dX9_isShares_69 (lv_at hl 1 rfl) ?_
            refine lv_lsub hx hb dX9_isShares_71 ?_
            refine tpl (x' := lN (p0 - q)) (lN_sub hqp) ?_
            refine lv_lstore (lv' := [(9, .long (lN (p0 - q))), (4, .long (lN p0)), (6, .long (lN q)), (8, .int (bI tu))]) hx hb dX9_isShares_72 hl (by decide) rfl (fun ls hl => ?_)
            refine lv_lload hx hb dX9_isShares_74 (lv_at hl 2 rfl) ?_
            refine lv_lstore (lv' := [(4, .long (lN q)), (9, .long (lN (p0 - q))), (6, .long (lN q)), (8, .int (bI tu))]) hx hb dX9_isShares_76 hl (by decide) rfl (fun ls hl => ?_)
            refine lv_lload hx hb dX9_isShares_78 (lv_at hl 1 rfl) ?_
            refine lv_lstore (lv' := [(6, .long (lN (p0 - q))), (4, .long (lN q)), (9, .long (lN (p0 - q))), (8, .int (bI tu))]) hx hb dX9_isShares_80 hl (by decide) rfl (fun ls hl => ?_)
            refine lv_iload hx hb dX9_isShares_82 (lv_at hl 3 rfl) ?_
            refine bz_ne (tgt := 91) hx hb dX9_isShares_84 (by decide) (fun c_84 n_84 => ?_) (fun c_84 n_84 => ?_)
            · skip
              have ht := bI_ne0 c_84
              refine lv_iconst (v := 0) hx hb dX9_isShares_91 (by decide) ?_
              refine tpi (x' := bI false) (rfl) ?_
              refine lv_istore (lv' := [(8, .int (bI false)), (6, .long (lN (p0 - q))), (4, .long (lN q)), (9, .long (lN (p0 - q)))]) hx hb dX9_isShares_92 hl (by decide) rfl (fun ls hl => ?_)
              refine lv_goto (tgt := 29) hx hb dX9_isShares_94 (by decide) ?_
              exact ih q (p0 - q) false _ (by omega) (by omega) (by rw [← hs, ht, shF_step hlt h2 (by omega)]; simp) (by omega) (lv_sub hl [2, 1, 0] rfl)
            · skip
              have ht := bI_eq0 c_84
              refine lv_iconst (v := 1) hx hb dX9_isShares_87 (by decide) ?_
              refine tpi (x' := bI true) (rfl) ?_
              refine lv_goto (tgt := 92) hx hb dX9_isShares_88 (by decide) ?_
              refine lv_istore (lv' := [(8, .int (bI true)), (6, .long (lN (p0 - q))), (4, .long (lN q)), (9, .long (lN (p0 - q)))]) hx hb dX9_isShares_92 hl (by decide) rfl (fun ls hl => ?_)
              refine lv_goto (tgt := 29) hx hb dX9_isShares_94 (by decide) ?_
              exact ih q (p0 - q) true _ (by omega) (by omega) (by rw [← hs, ht, shF_step hlt h2 (by omega)]; simp) (by omega) (lv_sub hl [2, 1, 0] rfl)
          · skip
            have hbig : shF p0 q = true := shF_big hq1 (by omega) (Or.inr ((ln_le (by omega) (by omega)).mp c_53))
            refine lv_iload hx hb dX9_isShares_56 (lv_at hl 2 rfl) ?_
            refine bz_ne (tgt := 65) hx hb dX9_isShares_58 (by decide) (fun c_58 n_58 => ?_) (fun c_58 n_58 => ?_)
            · skip
              have ht := bI_ne0 c_58
              refine lv_iconst (v := 0) hx hb dX9_isShares_65 (by decide) ?_
              exact hret _ _ _ dX9_isShares_66 (by rw [← hs, ht, hbig]; rfl)
            · skip
              have ht := bI_eq0 c_58
              refine lv_iconst (v := 1) hx hb dX9_isShares_61 (by decide) ?_
              refine lv_goto (tgt := 66) hx hb dX9_isShares_62 (by decide) ?_
              exact hret _ _ _ dX9_isShares_66 (by rw [← hs, ht, hbig]; rfl)
  refine lv_lload_n hx hb dX9_isShares_0 rfl (lv_at hl 0 rfl) ?_
  refine lv_lload_n hx hb dX9_isShares_1 rfl (lv_at hl 1 rfl) ?_
  refine bl_le (tgt := 10) hx hb dX9_isShares_2 dX9_isShares_3 (by decide) (fun c_3 n_3 => ?_) (fun c_3 n_3 => ?_)
  · skip
    refine lv_lload_n hx hb dX9_isShares_10 rfl (lv_at hl 1 rfl) ?_
    refine lv_lstore (lv' := [(4, .long (lN b)), (0, .long (lN a)), (2, .long (lN b))]) hx hb dX9_isShares_11 hl (by decide) rfl (fun ls hl => ?_)
    refine lv_lload_n hx hb dX9_isShares_13 rfl (lv_at hl 1 rfl) ?_
    refine lv_lload_n hx hb dX9_isShares_14 rfl (lv_at hl 2 rfl) ?_
    refine bl_le (tgt := 23) hx hb dX9_isShares_15 dX9_isShares_16 (by decide) (fun c_16 n_16 => ?_) (fun c_16 n_16 => ?_)
    · skip
      refine lv_lload_n hx hb dX9_isShares_23 rfl (lv_at hl 1 rfl) ?_
      refine lv_lstore (lv' := [(6, .long (lN a)), (4, .long (lN b)), (0, .long (lN a)), (2, .long (lN b))]) hx hb dX9_isShares_24 hl (by decide) rfl (fun ls hl => ?_)
      refine lv_iconst (v := 0) hx hb dX9_isShares_26 (by decide) ?_
      refine tpi (x' := bI false) (rfl) ?_
      refine lv_istore (lv' := [(8, .int (bI false)), (6, .long (lN a)), (4, .long (lN b)), (0, .long (lN a)), (2, .long (lN b))]) hx hb dX9_isShares_27 hl (by decide) rfl (fun ls hl => ?_)
      exact j_29 (a + 1) b a false _ ((ln_le (by omega) (by omega)).mp c_3) (by omega) (by rw [shF_comm]; simp) (by omega) (lv_sub hl [2, 1, 0] rfl)
    · exact absurd c_16 n_3
  · skip
    refine lv_lload_n hx hb dX9_isShares_6 rfl (lv_at hl 0 rfl) ?_
    refine lv_goto (tgt := 11) hx hb dX9_isShares_7 (by decide) ?_
    refine lv_lstore (lv' := [(4, .long (lN a)), (0, .long (lN a)), (2, .long (lN b))]) hx hb dX9_isShares_11 hl (by decide) rfl (fun ls hl => ?_)
    refine lv_lload_n hx hb dX9_isShares_13 rfl (lv_at hl 1 rfl) ?_
    refine lv_lload_n hx hb dX9_isShares_14 rfl (lv_at hl 2 rfl) ?_
    refine bl_le (tgt := 23) hx hb dX9_isShares_15 dX9_isShares_16 (by decide) (fun c_16 n_16 => ?_) (fun c_16 n_16 => ?_)
    · exact absurd c_16 n_3
    · skip
      refine lv_lload_n hx hb dX9_isShares_19 rfl (lv_at hl 2 rfl) ?_
      refine lv_goto (tgt := 24) hx hb dX9_isShares_20 (by decide) ?_
      refine lv_lstore (lv' := [(6, .long (lN b)), (4, .long (lN a)), (0, .long (lN a)), (2, .long (lN b))]) hx hb dX9_isShares_24 hl (by decide) rfl (fun ls hl => ?_)
      refine lv_iconst (v := 0) hx hb dX9_isShares_26 (by decide) ?_
      refine tpi (x' := bI false) (rfl) ?_
      refine lv_istore (lv' := [(8, .int (bI false)), (6, .long (lN b)), (4, .long (lN a)), (0, .long (lN a)), (2, .long (lN b))]) hx hb dX9_isShares_27 hl (by decide) rfl (fun ls hl => ?_)
      exact j_29 (b + 1) a b false _ (by have := (ln_lt (by omega) (by omega)).mp c_3; omega) (by omega) (by simp) (by omega) (lv_sub hl [2, 1, 0] rfl)
set_option maxHeartbeats 4000000 in
set_option maxRecDepth 100000 in
theorem k_X9_lesser (l : Launch) (D : va_G) (cA : Nat → ClassId) (M : mp) (m0 n : Nat) (hF : fibW cA M m0) (hn : n ≤ 1000000000001) : PC l D cA yX9_lesser wsX9_lesser 0 0 [.ref m0, .long (lN n)] M (some (.long (lN (cutF n)))) := by
  refine PC.lg (cc := cX9_lesser) (maxL := 8) (by decide) rfl (Nat.le_of_ble_eq_true rfl) ?_
  intro p e s m args below meth c H Q ls B hM hl hret
  obtain ⟨hx, hb, hown, hts, hml, hK, hin⟩ := B
  have hown : s.vm.findClass RX9 = some m.cls := hown
  have hl : lv_has ls 8 [(0, .ref m0), (1, .long (lN n))] := hl
  have in_X9 : ∀ w ∈ wsX90, w ∈ wsX9_lesser := by decide +kernel
  have fl_7 := hts (.fieldLink RX9 7 "GoldHeapsModel" "fib" "[J") (by decide +kernel)
  have hF0 := hF
  obtain ⟨v, fb, f, hR, hv0, hfb, hf⟩ := hF
  refine lv_lload_n hx hb dX9_lesser_0 rfl (lv_at hl 1 rfl) ?_
  refine lv_lconst (v := 0) hx hb dX9_lesser_1 (by decide) ?_
  refine bl_ne (tgt := 8) hx hb dX9_lesser_2 dX9_lesser_3 (by decide) (fun c_3 n_3 => ?_) (fun c_3 n_3 => ?_)
  · skip
    have hn0 : 1 ≤ n := by rcases Nat.eq_zero_or_pos n with g | g; exact absurd (by rw [g]; rfl) c_3; exact g
    refine lv_lload_n hx hb dX9_lesser_8 rfl (lv_at hl 1 rfl) ?_
    refine lv_lconst (v := 1) hx hb dX9_lesser_9 (by decide) ?_
    refine lv_lsub hx hb dX9_lesser_10 ?_
    refine tpl (x' := lN (n - 1)) (by rw [l_1]; exact lN_sub hn0) ?_
    refine lv_lstore_n (lv' := [(3, .long (lN (n - 1))), (0, .ref m0), (1, .long (lN n))]) hx hb dX9_lesser_11 rfl hl (by decide) rfl (fun ls hl => ?_)
    refine lv_lconst (v := 1) hx hb dX9_lesser_12 (by decide) ?_
    refine tpl (x' := lN 1) (l_1) ?_
    refine lv_lstore (lv' := [(5, .long (lN 1)), (3, .long (lN (n - 1))), (0, .ref m0), (1, .long (lN n))]) hx hb dX9_lesser_13 hl (by decide) rfl (fun ls hl => ?_)
    refine lv_bipush (v := 62) hx hb dX9_lesser_15 (by decide) ?_
    refine tpi (x' := nI 63 - 1) (by decide) ?_
    refine lv_istore (lv' := [(7, .int (nI 63 - 1)), (5, .long (lN 1)), (3, .long (lN (n - 1))), (0, .ref m0), (1, .long (lN n))]) hx hb dX9_lesser_17 hl (by decide) rfl (fun ls hl => ?_)
    have j_19 : ∀ (fu : Nat) (k left sum : Nat) (ls : Array Slot), (k ≤ 63) → (left ≤ n - 1) → (sum + rsF fibN k left = cutF n) → (k < fu) → lv_has ls 8 [(0, .ref m0), (3, .long (lN left)), (5, .long (lN sum)), (7, .int (nI k - 1))] → W p l e ({ frames := 0, cells := 0, slots := 0, locals := 0 } : Room) s m args below meth c H [] 0 0 Q (F0 m 19 ls []) := by
      intro fu
      induction fu with
      | zero => intro k left sum ls hk hle hs hm _; exact absurd hm (Nat.not_lt_zero _)
      | succ fu ih =>
        intro k left sum ls hk hle hs hm hl
        refine lv_iload hx hb dX9_lesser_19 (lv_at hl 3 rfl) ?_
        refine bz_lt (tgt := 66) hx hb dX9_lesser_21 (by decide) (fun c_21 n_21 => ?_) (fun c_21 n_21 => ?_)
        · skip
          have hk0 := nD_neg (by omega) c_21
          refine lv_lload hx hb dX9_lesser_66 (lv_at hl 2 rfl) ?_
          exact hret _ _ _ dX9_lesser_68 (by subst hk0; exact congrArg lN hs)
        · skip
          obtain ⟨i, hi⟩ := nD_pos c_21
          have hpos := fib_lt i (by omega)
          refine lv_aload_n hx hb dX9_lesser_24 rfl (lv_at hl 0 rfl) ?_
          refine m_get (ci := 9) (C := RX9) (T := TX9) (N := 18) (v := v 0) hx hb hts in_X9 hown hK hM hR rfl 0 (by decide) fl_7 (fun _ h => h) rfl dX9_lesser_25 ?_
          refine tpv (hv0) ?_
          refine lv_iload hx hb dX9_lesser_28 (lv_at hl 3 rfl) ?_
          refine m_laldN (k := i) hx hb hK hM hfb (nD_at hi) (by omega) (by decide) dX9_lesser_30 ?_
          refine tpl (x' := lN (fibN i)) (hf i (by omega)) ?_
          refine lv_lload_n hx hb dX9_lesser_31 rfl (lv_at hl 1 rfl) ?_
          refine bl_gt (tgt := 60) hx hb dX9_lesser_32 dX9_lesser_33 (by decide) (fun c_33 n_33 => ?_) (fun c_33 n_33 => ?_)
          · skip
            have hlt : left < fibN i := (ln_lt (by omega) (by omega)).mp c_33
            refine lv_iinc (v := nI i - 1) (lv' := [(7, .int (nI i - 1)), (0, .ref m0), (3, .long (lN left)), (5, .long (lN sum))]) hx hb dX9_lesser_60 hl (k := 3) rfl (nD_dec hi) (by decide) rfl (fun ls hl => ?_)
            refine lv_goto (tgt := 19) hx hb dX9_lesser_63 (by decide) ?_
            exact ih i left sum _ (by omega) hle (by rw [← hs, hi]; show sum + _ = sum + (if fibN i ≤ left then _ else _); rw [if_neg (by omega)]) (by omega) (lv_sub hl [1, 2, 3, 0] rfl)
          · skip
            have hge : fibN i ≤ left := (ln_le (by omega) (by omega)).mp c_33
            refine lv_lload_n hx hb dX9_lesser_36 rfl (lv_at hl 1 rfl) ?_
            refine lv_aload_n hx hb dX9_lesser_37 rfl (lv_at hl 0 rfl) ?_
            refine m_get (ci := 9) (C := RX9) (T := TX9) (N := 18) (v := v 0) hx hb hts in_X9 hown hK hM hR rfl 0 (by decide) fl_7 (fun _ h => h) rfl dX9_lesser_38 ?_
            refine tpv (hv0) ?_
            refine lv_iload hx hb dX9_lesser_41 (lv_at hl 3 rfl) ?_
            refine m_laldN (k := i) hx hb hK hM hfb (nD_at hi) (by omega) (by decide) dX9_lesser_43 ?_
            refine tpl (x' := lN (fibN i)) (hf i (by omega)) ?_
            refine lv_lsub hx hb dX9_lesser_44 ?_
            refine tpl (x' := lN (left - fibN i)) (lN_sub hge) ?_
            refine lv_lstore_n (lv' := [(3, .long (lN (left - fibN i))), (0, .ref m0), (5, .long (lN sum)), (7, .int (nI k - 1))]) hx hb dX9_lesser_45 rfl hl (by decide) rfl (fun ls hl => ?_)
            refine lv_lload hx hb dX9_lesser_46 (lv_at hl 2 rfl) ?_
            refine lv_aload_n hx hb dX9_lesser_48 rfl (lv_at hl 1 rfl) ?_
            refine m_get (ci := 9) (C := RX9) (T := TX9) (N := 18) (v := v 0) hx hb hts in_X9 hown hK hM hR rfl 0 (by decide) fl_7 (fun _ h => h) rfl dX9_lesser_49 ?_
            refine tpv (hv0) ?_
            refine lv_iload hx hb dX9_lesser_52 (lv_at hl 3 rfl) ?_
            refine lv_iconst (v := 1) hx hb dX9_lesser_54 (by decide) ?_
            refine lv_iadd hx hb dX9_lesser_55 ?_
            refine m_laldN (k := i + 1) hx hb hK hM hfb (nD_up hi) (by omega) (by decide) dX9_lesser_56 ?_
            refine tpl (x' := lN (fibN (i + 1))) (hf (i + 1) (by omega)) ?_
            refine lv_ladd hx hb dX9_lesser_57 ?_
            refine tpl (x' := lN (sum + fibN (i + 1))) (lN_add _ _) ?_
            refine lv_lstore (lv' := [(5, .long (lN (sum + fibN (i + 1)))), (3, .long (lN (left - fibN i))), (0, .ref m0), (7, .int (nI k - 1))]) hx hb dX9_lesser_58 hl (by decide) rfl (fun ls hl => ?_)
            refine lv_iinc (v := nI i - 1) (lv' := [(7, .int (nI i - 1)), (5, .long (lN (sum + fibN (i + 1)))), (3, .long (lN (left - fibN i))), (0, .ref m0)]) hx hb dX9_lesser_60 hl (k := 3) rfl (nD_dec hi) (by decide) rfl (fun ls hl => ?_)
            refine lv_goto (tgt := 19) hx hb dX9_lesser_63 (by decide) ?_
            exact ih i (left - fibN i) (sum + fibN (i + 1)) _ (by omega) (by omega) (by rw [← hs, hi]; show _ = sum + (if fibN i ≤ left then _ else _); rw [if_pos hge]; omega) (by omega) (lv_sub hl [3, 2, 1, 0] rfl)
    exact j_19 (64) 63 (n - 1) 1 _ (Nat.le_refl _) (Nat.le_refl _) (cut_63 hn0 hn) (by omega) (lv_sub hl [3, 2, 1, 0] rfl)
  · skip
    have hn0 : n = 0 := (ln_eq (by omega) (by decide)).mp (by rw [← l_0]; exact c_3)
    refine lv_lconst (v := 0) hx hb dX9_lesser_6 (by decide) ?_
    exact hret _ _ _ dX9_lesser_7 (by subst hn0; rfl)
set_option maxHeartbeats 4000000 in
set_option maxRecDepth 100000 in
theorem k_X9_isBoth (l : Launch) (D : va_G) (cA : Nat → ClassId) (M : mp) (m0 a b : Nat) (hF : fibW cA M m0) (ha : a ≤ 1000000000000) (hb0 : b ≤ 1000000000000) : PC l D cA yX9_isBoth wsX9_isBoth 1 27 [.ref m0, .long (lN a), .long (lN b)] M (some (.int (bI (bothF a b)))) := by
  refine PC.zz (cc := cX9_isBoth) (maxL := 5) (by decide) rfl (Nat.le_of_ble_eq_true rfl) ?_
  intro p e s m args below meth c H Q ls B hM hl hret
  obtain ⟨hx, hb, hown, hts, hml, hK, hin⟩ := B
  have hown : s.vm.findClass RX9 = some m.cls := hown
  have hl : lv_has ls 5 [(0, .ref m0), (1, .long (lN a)), (3, .long (lN b))] := hl
  have hF0 := hF
  obtain ⟨v, fb, f, hR, hv0, hfb, hf⟩ := hF
  have hda := dF_le ha hb0
  have hcd := cut_le (k := dF a b) (by omega)
  refine lv_lload_n hx hb dX9_isBoth_0 rfl (lv_at hl 1 rfl) ?_
  refine lv_lload_n hx hb dX9_isBoth_1 rfl (lv_at hl 2 rfl) ?_
  refine bl_ge (tgt := 26) hx hb dX9_isBoth_2 dX9_isBoth_3 (by decide) (fun c_3 n_3 => ?_) (fun c_3 n_3 => ?_)
  · skip
    have hba : b ≤ a := (ln_le (by omega) (by omega)).mp c_3
    have ed : a - b = dF a b := by unfold dF; split <;> omega
    refine lv_lload_n hx hb dX9_isBoth_26 rfl (lv_at hl 2 rfl) ?_
    refine lv_aload_n hx hb dX9_isBoth_27 rfl (lv_at hl 0 rfl) ?_
    refine lv_lload_n hx hb dX9_isBoth_28 rfl (lv_at hl 1 rfl) ?_
    refine lv_lload_n hx hb dX9_isBoth_29 rfl (lv_at hl 2 rfl) ?_
    refine lv_lsub hx hb dX9_isBoth_30 ?_
    refine tpl (x' := lN (dF a b)) (by rw [lN_sub (by omega), ed]) ?_
    refine cpV (As := [.long (lN (dF a b))]) (rest := [.long (lN b)]) (k_X9_lesser l D cA M m0 (dF a b) hF0 (by omega)) ⟨hx, hb, hml, hown, hts⟩ (cwV 1 hts gX9_isBoth_X9_lesser rfl rfl rfl (by decide +kernel) ⟨by decide, by decide⟩) hK hM hR rfl rfl hl.1 rfl (Nat.le_of_ble_eq_true rfl) dX9_isBoth_31 ⟨by decide, by decide⟩ ?_
    refine bl_eq (tgt := 42) hx hb dX9_isBoth_34 dX9_isBoth_35 (by decide) (fun c_35 n_35 => ?_) (fun c_35 n_35 => ?_)
    · skip
      have he := (ln_eq (by omega) (by omega)).mp c_35
      refine lv_iconst (v := 0) hx hb dX9_isBoth_42 (by decide) ?_
      exact hret _ _ _ dX9_isBoth_43 (by unfold bothF; rw [Nat.min_eq_right (by omega), ← he]; simp [bI])
    · skip
      have he : ¬ b = cutF (dF a b) := fun z => c_35 (by rw [← z])
      refine lv_iconst (v := 1) hx hb dX9_isBoth_38 (by decide) ?_
      refine lv_goto (tgt := 43) hx hb dX9_isBoth_39 (by decide) ?_
      exact hret _ _ _ dX9_isBoth_43 (by unfold bothF; rw [Nat.min_eq_right (by omega)]; simp [bI, Ne.symm he])
  · skip
    have hba : a < b := (ln_lt (by omega) (by omega)).mp c_3
    have ed : b - a = dF a b := by unfold dF; split <;> omega
    refine lv_lload_n hx hb dX9_isBoth_6 rfl (lv_at hl 1 rfl) ?_
    refine lv_aload_n hx hb dX9_isBoth_7 rfl (lv_at hl 0 rfl) ?_
    refine lv_lload_n hx hb dX9_isBoth_8 rfl (lv_at hl 2 rfl) ?_
    refine lv_lload_n hx hb dX9_isBoth_9 rfl (lv_at hl 1 rfl) ?_
    refine lv_lsub hx hb dX9_isBoth_10 ?_
    refine tpl (x' := lN (dF a b)) (by rw [lN_sub (by omega), ed]) ?_
    refine cpV (As := [.long (lN (dF a b))]) (rest := [.long (lN a)]) (k_X9_lesser l D cA M m0 (dF a b) hF0 (by omega)) ⟨hx, hb, hml, hown, hts⟩ (cwV 1 hts gX9_isBoth_X9_lesser rfl rfl rfl (by decide +kernel) ⟨by decide, by decide⟩) hK hM hR rfl rfl hl.1 rfl (Nat.le_of_ble_eq_true rfl) dX9_isBoth_11 ⟨by decide, by decide⟩ ?_
    refine bl_eq (tgt := 22) hx hb dX9_isBoth_14 dX9_isBoth_15 (by decide) (fun c_15 n_15 => ?_) (fun c_15 n_15 => ?_)
    · skip
      have he := (ln_eq (by omega) (by omega)).mp c_15
      refine lv_iconst (v := 0) hx hb dX9_isBoth_22 (by decide) ?_
      refine lv_goto (tgt := 43) hx hb dX9_isBoth_23 (by decide) ?_
      exact hret _ _ _ dX9_isBoth_43 (by unfold bothF; rw [Nat.min_eq_left (by omega), ← he]; simp [bI])
    · skip
      have he : ¬ a = cutF (dF a b) := fun z => c_15 (by rw [← z])
      refine lv_iconst (v := 1) hx hb dX9_isBoth_18 (by decide) ?_
      refine lv_goto (tgt := 43) hx hb dX9_isBoth_19 (by decide) ?_
      exact hret _ _ _ dX9_isBoth_43 (by unfold bothF; rw [Nat.min_eq_left (by omega)]; simp [bI, Ne.symm he])
set_option maxHeartbeats 4000000 in
set_option maxRecDepth 100000 in
theorem k_X0_lesserLostAlong (l : Launch) (D : va_G) (cA : Nat → ClassId) (M : mp) (bg go a b : Nat) (hbg : M bg = some (.inr (0, [.ref go]))) (hG : goldW cA M go) (ha : a ≤ 1000000000000) (hb0 : b ≤ 1000000000000) : PC l D cA yX0_lesserLostAlong wsX0_lesserLostAlong 2 49 [.ref bg, .long (lN a), .long (lN b)] M (some (.long (lN (cutF (dF a b))))) := by
  refine PC.lg (cc := cX0_lesserLostAlong) (maxL := 5) (by decide) rfl (Nat.le_of_ble_eq_true rfl) ?_
  intro p e s m args below meth c H Q ls B hM hl hret
  obtain ⟨hx, hb, hown, hts, hml, hK, hin⟩ := B
  have hown : s.vm.findClass RX0 = some m.cls := hown
  have hl : lv_has ls 5 [(0, .ref bg), (1, .long (lN a)), (3, .long (lN b))] := hl
  have in_X0 : ∀ w ∈ wsX00, w ∈ wsX0_lesserLostAlong := by decide +kernel
  have fl_9 := hts (.fieldLink RX0 9 "GoldHeaps$BothGame" "golden" "LGoldHeaps$Golden;") (by decide +kernel)
  have ml_30 := hts (.methodLink RX0 30 Lib.MathLoose.abs_long.x) (by decide +kernel)
  have ms_30 := hts (.static Lib.MathLoose.abs_long.x) (by decide +kernel)
  have mi_math := hts (.initialized "java/lang/Math") (by decide +kernel)
  have mc_30 := hts (.code Lib.MathLoose.abs_long.x Lib.MathLoose.abs_long.code 2 (some .long)) (by decide +kernel)
  have hG0 := hG
  obtain ⟨s2, n2, f, hg, hs2, hn2, hf⟩ := hG
  have hda := dF_le ha hb0
  have hcd := cut_le (k := dF a b) (by omega)
  have hpa := prtF_le ha
  have hpb := prtF_le hb0
  refine lv_aload_n hx hb dX0_lesserLostAlong_0 rfl (lv_at hl 0 rfl) ?_
  refine m_get (ci := 0) (C := RX0) (T := TX0) (N := 1) (v := .ref go) hx hb hts in_X0 hown hK hM hbg rfl 0 (by decide) fl_9 (fun _ h => h) rfl dX0_lesserLostAlong_1 ?_
  refine lv_lload_n hx hb dX0_lesserLostAlong_4 rfl (lv_at hl 1 rfl) ?_
  refine lv_lload_n hx hb dX0_lesserLostAlong_5 rfl (lv_at hl 2 rfl) ?_
  refine lv_lsub hx hb dX0_lesserLostAlong_6 ?_
  refine va_mabs_long hx hb (by rw [hml]; exact hl.1.symm) hown ml_30 ms_30 mi_math mc_30 (Nat.le_of_ble_eq_true rfl) (Nat.le_of_ble_eq_true rfl) (Nat.le_of_ble_eq_true rfl) (Nat.le_of_ble_eq_true rfl) dX0_lesserLostAlong_7 ?_
  refine tpl (x' := lN (dF a b)) (abs_dF ha hb0) ?_
  refine cpV (As := [.long (lN (dF a b))]) (rest := []) (k_X1_cut l D cA M go (dF a b) hG0 (by omega)) ⟨hx, hb, hml, hown, hts⟩ (cwV 1 hts gX0_lesserLostAlong_X1_cut rfl rfl rfl (by decide +kernel) ⟨by decide, by decide⟩) hK hM hg rfl rfl hl.1 rfl (Nat.le_of_ble_eq_true rfl) dX0_lesserLostAlong_10 ⟨by decide, by decide⟩ ?_
  exact hret _ _ _ dX0_lesserLostAlong_13 (rfl)
set_option maxHeartbeats 4000000 in
set_option maxRecDepth 100000 in
theorem k_X0_isWon (l : Launch) (D : va_G) (cA : Nat → ClassId) (M : mp) (bg go a b : Nat) (hbg : M bg = some (.inr (0, [.ref go]))) (hG : goldW cA M go) (ha : a ≤ 1000000000000) (hb0 : b ≤ 1000000000000) : PC l D cA yX0_isWon wsX0_isWon 3 73 [.ref bg, .long (lN a), .long (lN b)] M (some (.int (bI (bothF a b)))) := by
  refine PC.zz (cc := cX0_isWon) (maxL := 5) (by decide) rfl (Nat.le_of_ble_eq_true rfl) ?_
  intro p e s m args below meth c H Q ls B hM hl hret
  obtain ⟨hx, hb, hown, hts, hml, hK, hin⟩ := B
  have hown : s.vm.findClass RX0 = some m.cls := hown
  have hl : lv_has ls 5 [(0, .ref bg), (1, .long (lN a)), (3, .long (lN b))] := hl
  have ml_19 := hts (.methodLink RX0 19 Lib.MathLoose.min_long.x) (by decide +kernel)
  have ms_19 := hts (.static Lib.MathLoose.min_long.x) (by decide +kernel)
  have mi_math := hts (.initialized "java/lang/Math") (by decide +kernel)
  have mc_19 := hts (.code Lib.MathLoose.min_long.x Lib.MathLoose.min_long.code 4 (some .long)) (by decide +kernel)
  have hG0 := hG
  obtain ⟨s2, n2, f, hg, hs2, hn2, hf⟩ := hG
  have hda := dF_le ha hb0
  have hcd := cut_le (k := dF a b) (by omega)
  have hpa := prtF_le ha
  have hpb := prtF_le hb0
  have hmn : min a b ≤ 1000000000000 := by omega
  refine lv_aload_n hx hb dX0_isWon_0 rfl (lv_at hl 0 rfl) ?_
  refine lv_lload_n hx hb dX0_isWon_1 rfl (lv_at hl 1 rfl) ?_
  refine lv_lload_n hx hb dX0_isWon_2 rfl (lv_at hl 2 rfl) ?_
  refine cpV (As := [.long (lN a), .long (lN b)]) (rest := []) (k_X0_lesserLostAlong l D cA M bg go a b hbg hG0 ha hb0) ⟨hx, hb, hml, hown, hts⟩ (cwV 2 hts gX0_isWon_X0_lesserLostAlong rfl rfl rfl (by decide +kernel) ⟨by decide, by decide⟩) hK hM hbg rfl rfl hl.1 rfl (Nat.le_of_ble_eq_true rfl) dX0_isWon_3 ⟨by decide, by decide⟩ ?_
  refine lv_lload_n hx hb dX0_isWon_6 rfl (lv_at hl 1 rfl) ?_
  refine lv_lload_n hx hb dX0_isWon_7 rfl (lv_at hl 2 rfl) ?_
  refine va_mmin_long hx hb (by rw [hml]; exact hl.1.symm) hown ml_19 ms_19 mi_math mc_19 (Nat.le_of_ble_eq_true rfl) (Nat.le_of_ble_eq_true rfl) (Nat.le_of_ble_eq_true rfl) (Nat.le_of_ble_eq_true rfl) dX0_isWon_8 ?_
  refine tpl (x' := lN (min a b)) (min_lN (by omega) (by omega)) ?_
  refine bl_eq (tgt := 19) hx hb dX0_isWon_11 dX0_isWon_12 (by decide) (fun c_12 n_12 => ?_) (fun c_12 n_12 => ?_)
  · skip
    have he := (ln_eq (by omega) (by omega)).mp c_12
    refine lv_iconst (v := 0) hx hb dX0_isWon_19 (by decide) ?_
    exact hret _ _ _ dX0_isWon_20 (by unfold bothF; simp [bI, he])
  · skip
    have he : ¬ cutF (dF a b) = min a b := fun z => c_12 (by rw [z])
    refine lv_iconst (v := 1) hx hb dX0_isWon_15 (by decide) ?_
    refine lv_goto (tgt := 20) hx hb dX0_isWon_16 (by decide) ?_
    exact hret _ _ _ dX0_isWon_20 (by unfold bothF; simp [bI, he])
set_option maxHeartbeats 4000000 in
set_option maxRecDepth 100000 in
theorem k_X0_whichWins (l : Launch) (D : va_G) (cA : Nat → ClassId) (M : mp) (bg go a b : Nat) (hbg : M bg = some (.inr (0, [.ref go]))) (hG : goldW cA M go) (ha : a ≤ 1000000000000) (hb0 : b ≤ 1000000000000) : PC l D cA yX0_whichWins wsX0_whichWins 5 115 [.ref bg, .long (lN a), .long (lN b)] M (some (.int (whichF a b))) := by
  refine PC.it (cc := cX0_whichWins) (maxL := 5) (by decide) rfl (Nat.le_of_ble_eq_true rfl) ?_
  intro p e s m args below meth c H Q ls B hM hl hret
  obtain ⟨hx, hb, hown, hts, hml, hK, hin⟩ := B
  have hown : s.vm.findClass RX0 = some m.cls := hown
  have hl : lv_has ls 5 [(0, .ref bg), (1, .long (lN a)), (3, .long (lN b))] := hl
  have in_X0 : ∀ w ∈ wsX00, w ∈ wsX0_whichWins := by decide +kernel
  have fl_9 := hts (.fieldLink RX0 9 "GoldHeaps$BothGame" "golden" "LGoldHeaps$Golden;") (by decide +kernel)
  have ml_19 := hts (.methodLink RX0 19 Lib.MathLoose.min_long.x) (by decide +kernel)
  have ms_19 := hts (.static Lib.MathLoose.min_long.x) (by decide +kernel)
  have mi_math := hts (.initialized "java/lang/Math") (by decide +kernel)
  have mc_19 := hts (.code Lib.MathLoose.min_long.x Lib.MathLoose.min_long.code 4 (some .long)) (by decide +kernel)
  have hG0 := hG
  obtain ⟨s2, n2, f, hg, hs2, hn2, hf⟩ := hG
  have hda := dF_le ha hb0
  have hcd := cut_le (k := dF a b) (by omega)
  have hpa := prtF_le ha
  have hpb := prtF_le hb0
  have hmn : min a b ≤ 1000000000000 := by omega
  refine lv_aload_n hx hb dX0_whichWins_0 rfl (lv_at hl 0 rfl) ?_
  refine m_get (ci := 0) (C := RX0) (T := TX0) (N := 1) (v := .ref go) hx hb hts in_X0 hown hK hM hbg rfl 0 (by decide) fl_9 (fun _ h => h) rfl dX0_whichWins_1 ?_
  refine lv_lload_n hx hb dX0_whichWins_4 rfl (lv_at hl 2 rfl) ?_
  refine cpV (As := [.long (lN b)]) (rest := []) (k_X1_partnerOf l D cA M go (b) hG0 (hb0)) ⟨hx, hb, hml, hown, hts⟩ (cwV 1 hts gX0_whichWins_X1_partnerOf rfl rfl rfl (by decide +kernel) ⟨by decide, by decide⟩) hK hM hg rfl rfl hl.1 rfl (Nat.le_of_ble_eq_true rfl) dX0_whichWins_5 ⟨by decide, by decide⟩ ?_
  refine lv_lload_n hx hb dX0_whichWins_8 rfl (lv_at hl 1 rfl) ?_
  refine bl_ge (tgt := 15) hx hb dX0_whichWins_9 dX0_whichWins_10 (by decide) (fun c_10 n_10 => ?_) (fun c_10 n_10 => ?_)
  · skip
    have h10 : ¬ prtF b < a := fun z => n_10 ((ln_lt (by omega) (by omega)).mpr z)
    refine lv_aload_n hx hb dX0_whichWins_15 rfl (lv_at hl 0 rfl) ?_
    refine m_get (ci := 0) (C := RX0) (T := TX0) (N := 1) (v := .ref go) hx hb hts in_X0 hown hK hM hbg rfl 0 (by decide) fl_9 (fun _ h => h) rfl dX0_whichWins_16 ?_
    refine lv_lload_n hx hb dX0_whichWins_19 rfl (lv_at hl 1 rfl) ?_
    refine cpV (As := [.long (lN a)]) (rest := []) (k_X1_partnerOf l D cA M go (a) hG0 (ha)) ⟨hx, hb, hml, hown, hts⟩ (cwV 1 hts gX0_whichWins_X1_partnerOf rfl rfl rfl (by decide +kernel) ⟨by decide, by decide⟩) hK hM hg rfl rfl hl.1 rfl (Nat.le_of_ble_eq_true rfl) dX0_whichWins_20 ⟨by decide, by decide⟩ ?_
    refine lv_lload_n hx hb dX0_whichWins_23 rfl (lv_at hl 2 rfl) ?_
    refine bl_ge (tgt := 30) hx hb dX0_whichWins_24 dX0_whichWins_25 (by decide) (fun c_25 n_25 => ?_) (fun c_25 n_25 => ?_)
    · skip
      have h25 : ¬ prtF a < b := fun z => n_25 ((ln_lt (by omega) (by omega)).mpr z)
      refine lv_aload_n hx hb dX0_whichWins_30 rfl (lv_at hl 0 rfl) ?_
      refine lv_lload_n hx hb dX0_whichWins_31 rfl (lv_at hl 1 rfl) ?_
      refine lv_lload_n hx hb dX0_whichWins_32 rfl (lv_at hl 2 rfl) ?_
      refine cpV (As := [.long (lN a), .long (lN b)]) (rest := []) (k_X0_lesserLostAlong l D cA M bg go a b hbg hG0 ha hb0) ⟨hx, hb, hml, hown, hts⟩ (cwV 2 hts gX0_whichWins_X0_lesserLostAlong rfl rfl rfl (by decide +kernel) ⟨by decide, by decide⟩) hK hM hbg rfl rfl hl.1 rfl (Nat.le_of_ble_eq_true rfl) dX0_whichWins_33 ⟨by decide, by decide⟩ ?_
      refine lv_lload_n hx hb dX0_whichWins_36 rfl (lv_at hl 1 rfl) ?_
      refine lv_lload_n hx hb dX0_whichWins_37 rfl (lv_at hl 2 rfl) ?_
      refine va_mmin_long hx hb (by rw [hml]; exact hl.1.symm) hown ml_19 ms_19 mi_math mc_19 (Nat.le_of_ble_eq_true rfl) (Nat.le_of_ble_eq_true rfl) (Nat.le_of_ble_eq_true rfl) (Nat.le_of_ble_eq_true rfl) dX0_whichWins_38 ?_
      refine tpl (x' := lN (min a b)) (min_lN (by omega) (by omega)) ?_
      refine bl_ge (tgt := 49) hx hb dX0_whichWins_41 dX0_whichWins_42 (by decide) (fun c_42 n_42 => ?_) (fun c_42 n_42 => ?_)
      · skip
        have h42 : ¬ cutF (dF a b) < min a b := fun z => n_42 ((ln_lt (by omega) (by omega)).mpr z)
        refine lv_iconst (v := (-1)) hx hb dX0_whichWins_49 (by decide) ?_
        exact hret _ _ _ dX0_whichWins_50 (by unfold whichF; rw [if_neg h10, if_neg h25, if_neg h42])
      · skip
        have h42 : cutF (dF a b) < min a b := (ln_lt (by omega) (by omega)).mp c_42
        refine lv_iconst (v := 2) hx hb dX0_whichWins_45 (by decide) ?_
        refine lv_goto (tgt := 50) hx hb dX0_whichWins_46 (by decide) ?_
        exact hret _ _ _ dX0_whichWins_50 (by unfold whichF; rw [if_neg h10, if_neg h25, if_pos h42])
    · skip
      have h25 : prtF a < b := (ln_lt (by omega) (by omega)).mp c_25
      refine lv_iconst (v := 1) hx hb dX0_whichWins_28 (by decide) ?_
      exact hret _ _ _ dX0_whichWins_29 (by unfold whichF; rw [if_neg h10, if_pos h25])
  · skip
    have h10 : prtF b < a := (ln_lt (by omega) (by omega)).mp c_10
    refine lv_iconst (v := 0) hx hb dX0_whichWins_13 (by decide) ?_
    exact hret _ _ _ dX0_whichWins_14 (by unfold whichF; rw [if_pos h10])
set_option maxHeartbeats 4000000 in
set_option maxRecDepth 100000 in
theorem k_X0_howMany (l : Launch) (D : va_G) (cA : Nat → ClassId) (M : mp) (bg go a b : Nat) (hbg : M bg = some (.inr (0, [.ref go]))) (hG : goldW cA M go) (ha : a ≤ 1000000000000) (hb0 : b ≤ 1000000000000) : PC l D cA yX0_howMany wsX0_howMany 5 115 [.ref bg, .long (lN a), .long (lN b), .int (whichF a b)] M (some (.long (lN (howF a b)))) := by
  refine PC.lg (cc := cX0_howMany) (maxL := 6) (by decide) rfl (Nat.le_of_ble_eq_true rfl) ?_
  intro p e s m args below meth c H Q ls B hM hl hret
  obtain ⟨hx, hb, hown, hts, hml, hK, hin⟩ := B
  have hown : s.vm.findClass RX0 = some m.cls := hown
  have hl : lv_has ls 6 [(0, .ref bg), (1, .long (lN a)), (3, .long (lN b)), (5, .int (whichF a b))] := hl
  have in_X0 : ∀ w ∈ wsX00, w ∈ wsX0_howMany := by decide +kernel
  have fl_9 := hts (.fieldLink RX0 9 "GoldHeaps$BothGame" "golden" "LGoldHeaps$Golden;") (by decide +kernel)
  have ml_19 := hts (.methodLink RX0 19 Lib.MathLoose.min_long.x) (by decide +kernel)
  have ms_19 := hts (.static Lib.MathLoose.min_long.x) (by decide +kernel)
  have mi_math := hts (.initialized "java/lang/Math") (by decide +kernel)
  have mc_19 := hts (.code Lib.MathLoose.min_long.x Lib.MathLoose.min_long.code 4 (some .long)) (by decide +kernel)
  have hG0 := hG
  obtain ⟨s2, n2, f, hg, hs2, hn2, hf⟩ := hG
  have hda := dF_le ha hb0
  have hcd := cut_le (k := dF a b) (by omega)
  have hpa := prtF_le ha
  have hpb := prtF_le hb0
  have hmn : min a b ≤ 1000000000000 := by omega
  have hwc : (whichF a b = 0 ∧ howF a b = a - prtF b ∧ prtF b < a) ∨ (whichF a b = 1 ∧ howF a b = b - prtF a ∧ prtF a < b) ∨ (whichF a b = 2 ∧ howF a b = min a b - cutF (dF a b) ∧ cutF (dF a b) < min a b) ∨ (whichF a b = -1 ∧ howF a b = 0) := by
    unfold whichF howF
    by_cases h1 : prtF b < a
    · simp [h1]
    · by_cases h2 : prtF a < b
      · simp [h1, h2]
      · by_cases h3 : cutF (dF a b) < min a b
        · simp [h1, h2, h3]
        · simp [h1, h2, h3]
  refine lv_iload hx hb dX0_howMany_0 (lv_at hl 3 rfl) ?_
  rcases hwc with ⟨ew, er⟩ | ⟨ew, er⟩ | ⟨ew, er⟩ | ⟨ew, er⟩
  · refine lv_tableIn (tgt := 28) (off := 26) hx hb dX0_howMany_2 (by rw [ew]; decide) (by rw [ew]; decide) (by rw [ew]; rfl) (by decide) ?_
    refine lv_lload_n hx hb dX0_howMany_28 rfl (lv_at hl 1 rfl) ?_
    refine lv_aload_n hx hb dX0_howMany_29 rfl (lv_at hl 0 rfl) ?_
    refine m_get (ci := 0) (C := RX0) (T := TX0) (N := 1) (v := .ref go) hx hb hts in_X0 hown hK hM hbg rfl 0 (by decide) fl_9 (fun _ h => h) rfl dX0_howMany_30 ?_
    refine lv_lload_n hx hb dX0_howMany_33 rfl (lv_at hl 2 rfl) ?_
    refine cpV (As := [.long (lN b)]) (rest := [.long (lN a)]) (k_X1_partnerOf l D cA M go (b) hG0 (hb0)) ⟨hx, hb, hml, hown, hts⟩ (cwV 1 hts gX0_howMany_X1_partnerOf rfl rfl rfl (by decide +kernel) ⟨by decide, by decide⟩) hK hM hg rfl rfl hl.1 rfl (Nat.le_of_ble_eq_true rfl) dX0_howMany_34 ⟨by decide, by decide⟩ ?_
    refine lv_lsub hx hb dX0_howMany_37 ?_
    refine tpl (x' := lN (howF a b)) (by rw [lN_sub (by omega), er.1]) ?_
    exact hret _ _ _ dX0_howMany_38 (rfl)
  · refine lv_tableIn (tgt := 39) (off := 37) hx hb dX0_howMany_2 (by rw [ew]; decide) (by rw [ew]; decide) (by rw [ew]; rfl) (by decide) ?_
    refine lv_lload_n hx hb dX0_howMany_39 rfl (lv_at hl 2 rfl) ?_
    refine lv_aload_n hx hb dX0_howMany_40 rfl (lv_at hl 0 rfl) ?_
    refine m_get (ci := 0) (C := RX0) (T := TX0) (N := 1) (v := .ref go) hx hb hts in_X0 hown hK hM hbg rfl 0 (by decide) fl_9 (fun _ h => h) rfl dX0_howMany_41 ?_
    refine lv_lload_n hx hb dX0_howMany_44 rfl (lv_at hl 1 rfl) ?_
    refine cpV (As := [.long (lN a)]) (rest := [.long (lN b)]) (k_X1_partnerOf l D cA M go (a) hG0 (ha)) ⟨hx, hb, hml, hown, hts⟩ (cwV 1 hts gX0_howMany_X1_partnerOf rfl rfl rfl (by decide +kernel) ⟨by decide, by decide⟩) hK hM hg rfl rfl hl.1 rfl (Nat.le_of_ble_eq_true rfl) dX0_howMany_45 ⟨by decide, by decide⟩ ?_
    refine lv_lsub hx hb dX0_howMany_48 ?_
    refine tpl (x' := lN (howF a b)) (by rw [lN_sub (by omega), er.1]) ?_
    exact hret _ _ _ dX0_howMany_49 (rfl)
  · refine lv_tableIn (tgt := 50) (off := 48) hx hb dX0_howMany_2 (by rw [ew]; decide) (by rw [ew]; decide) (by rw [ew]; rfl) (by decide) ?_
    refine lv_lload_n hx hb dX0_howMany_50 rfl (lv_at hl 1 rfl) ?_
    refine lv_lload_n hx hb dX0_howMany_51 rfl (lv_at hl 2 rfl) ?_
    refine va_mmin_long hx hb (by rw [hml]; exact hl.1.symm) hown ml_19 ms_19 mi_math mc_19 (Nat.le_of_ble_eq_true rfl) (Nat.le_of_ble_eq_true rfl) (Nat.le_of_ble_eq_true rfl) (Nat.le_of_ble_eq_true rfl) dX0_howMany_52 ?_
    refine tpl (x' := lN (min a b)) (min_lN (by omega) (by omega)) ?_
    refine lv_aload_n hx hb dX0_howMany_55 rfl (lv_at hl 0 rfl) ?_
    refine lv_lload_n hx hb dX0_howMany_56 rfl (lv_at hl 1 rfl) ?_
    refine lv_lload_n hx hb dX0_howMany_57 rfl (lv_at hl 2 rfl) ?_
    refine cpV (As := [.long (lN a), .long (lN b)]) (rest := [.long (lN (min a b))]) (k_X0_lesserLostAlong l D cA M bg go a b hbg hG0 ha hb0) ⟨hx, hb, hml, hown, hts⟩ (cwV 2 hts gX0_howMany_X0_lesserLostAlong rfl rfl rfl (by decide +kernel) ⟨by decide, by decide⟩) hK hM hbg rfl rfl hl.1 rfl (Nat.le_of_ble_eq_true rfl) dX0_howMany_58 ⟨by decide, by decide⟩ ?_
    refine lv_lsub hx hb dX0_howMany_61 ?_
    refine tpl (x' := lN (howF a b)) (by rw [lN_sub (by omega), er.1]) ?_
    exact hret _ _ _ dX0_howMany_62 (rfl)
  · refine lv_tableOut (tgt := 63) hx hb dX0_howMany_2 (by rw [ew]; decide) (by decide) ?_
    refine lv_lconst (v := 0) hx hb dX0_howMany_63 (by decide) ?_
    refine tpl (x' := lN (howF a b)) (by rw [er]; rfl) ?_
    exact hret _ _ _ dX0_howMany_64 (rfl)
set_option maxHeartbeats 4000000 in
set_option maxRecDepth 100000 in
theorem k_X5_isWon (l : Launch) (D : va_G) (cA : Nat → ClassId) (M : mp) (sg go a b : Nat) (hsg : M sg = some (.inr (5, [.ref go]))) (hG : goldW cA M go) (ha : a ≤ 1000000000000) (hb0 : b ≤ 1000000000000) : PC l D cA yX5_isWon wsX5_isWon 2 49 [.ref sg, .long (lN a), .long (lN b)] M (some (.int (bI (shF a b)))) := by
  refine PC.zz (cc := cX5_isWon) (maxL := 9) (by decide) rfl (Nat.le_of_ble_eq_true rfl) ?_
  intro p e s m args below meth c H Q ls B hM hl hret
  obtain ⟨hx, hb, hown, hts, hml, hK, hin⟩ := B
  have hown : s.vm.findClass RX5 = some m.cls := hown
  have hl : lv_has ls 9 [(0, .ref sg), (1, .long (lN a)), (3, .long (lN b))] := hl
  have ml_13 := hts (.methodLink RX5 13 Lib.MathLoose.max_long.x) (by decide +kernel)
  have ms_13 := hts (.static Lib.MathLoose.max_long.x) (by decide +kernel)
  have mi_math := hts (.initialized "java/lang/Math") (by decide +kernel)
  have mc_13 := hts (.code Lib.MathLoose.max_long.x Lib.MathLoose.max_long.code 4 (some .long)) (by decide +kernel)
  have ml_19 := hts (.methodLink RX5 19 Lib.MathLoose.min_long.x) (by decide +kernel)
  have ms_19 := hts (.static Lib.MathLoose.min_long.x) (by decide +kernel)
  have mc_19 := hts (.code Lib.MathLoose.min_long.x Lib.MathLoose.min_long.code 4 (some .long)) (by decide +kernel)
  have in_X5 : ∀ w ∈ wsX50, w ∈ wsX5_isWon := by decide +kernel
  have fl_7 := hts (.fieldLink RX5 7 "GoldHeaps$SharesGame" "golden" "LGoldHeaps$Golden;") (by decide +kernel)
  have hG0 := hG
  obtain ⟨s2, n2, f, hg, hs2, hn2, hf⟩ := hG
  have hmn : min a b ≤ 1000000000000 := by omega
  have hmx : max a b ≤ 1000000000000 := by omega
  have hcm := cut_le (k := min a b) (by omega)
  refine lv_lload_n hx hb dX5_isWon_0 rfl (lv_at hl 1 rfl) ?_
  refine lv_lload_n hx hb dX5_isWon_1 rfl (lv_at hl 2 rfl) ?_
  refine va_mmax_long hx hb (by rw [hml]; exact hl.1.symm) hown ml_13 ms_13 mi_math mc_13 (Nat.le_of_ble_eq_true rfl) (Nat.le_of_ble_eq_true rfl) (Nat.le_of_ble_eq_true rfl) (Nat.le_of_ble_eq_true rfl) dX5_isWon_2 ?_
  refine tpl (x' := lN (max a b)) (max_lN (by omega) (by omega)) ?_
  refine lv_lstore (lv' := [(5, .long (lN (max a b))), (0, .ref sg), (1, .long (lN a)), (3, .long (lN b))]) hx hb dX5_isWon_5 hl (by decide) rfl (fun ls hl => ?_)
  refine lv_lload_n hx hb dX5_isWon_7 rfl (lv_at hl 2 rfl) ?_
  refine lv_lload_n hx hb dX5_isWon_8 rfl (lv_at hl 3 rfl) ?_
  refine va_mmin_long hx hb (by rw [hml]; exact hl.1.symm) hown ml_19 ms_19 mi_math mc_19 (Nat.le_of_ble_eq_true rfl) (Nat.le_of_ble_eq_true rfl) (Nat.le_of_ble_eq_true rfl) (Nat.le_of_ble_eq_true rfl) dX5_isWon_9 ?_
  refine tpl (x' := lN (min a b)) (min_lN (by omega) (by omega)) ?_
  refine lv_lstore (lv' := [(7, .long (lN (min a b))), (5, .long (lN (max a b))), (0, .ref sg), (1, .long (lN a)), (3, .long (lN b))]) hx hb dX5_isWon_12 hl (by decide) rfl (fun ls hl => ?_)
  refine lv_lload hx hb dX5_isWon_14 (lv_at hl 0 rfl) ?_
  refine lv_lconst (v := 0) hx hb dX5_isWon_16 (by decide) ?_
  refine bl_le (tgt := 48) hx hb dX5_isWon_17 dX5_isWon_18 (by decide) (fun c_18 n_18 => ?_) (fun c_18 n_18 => ?_)
  · skip
    have h18 : ¬ 0 < min a b := fun z => n_18 (by rw [l_0]; exact (ln_lt (by decide) (by omega)).mpr z)
    refine lv_iconst (v := 0) hx hb dX5_isWon_48 (by decide) ?_
    exact hret _ _ _ dX5_isWon_49 (by unfold shF; rw [decide_eq_false h18]; rfl)
  · skip
    have h18 : 0 < min a b := (ln_lt (by decide) (by omega)).mp (by rw [← l_0]; exact c_18)
    refine lv_lload hx hb dX5_isWon_21 (lv_at hl 1 rfl) ?_
    refine lv_lload hx hb dX5_isWon_23 (lv_at hl 0 rfl) ?_
    refine bl_eq (tgt := 44) hx hb dX5_isWon_25 dX5_isWon_26 (by decide) (fun c_26 n_26 => ?_) (fun c_26 n_26 => ?_)
    · skip
      have h26 : max a b = min a b := (ln_eq (by omega) (by omega)).mp c_26
      refine lv_iconst (v := 1) hx hb dX5_isWon_44 (by decide) ?_
      refine lv_goto (tgt := 49) hx hb dX5_isWon_45 (by decide) ?_
      exact hret _ _ _ dX5_isWon_49 (by unfold shF; rw [decide_eq_true h18, decide_eq_true h26]; rfl)
    · skip
      have h26 : ¬ max a b = min a b := fun z => c_26 (by rw [z])
      refine lv_lload hx hb dX5_isWon_29 (lv_at hl 1 rfl) ?_
      refine lv_aload_n hx hb dX5_isWon_31 rfl (lv_at hl 2 rfl) ?_
      refine m_get (ci := 5) (C := RX5) (T := TX5) (N := 1) (v := .ref go) hx hb hts in_X5 hown hK hM hsg rfl 0 (by decide) fl_7 (fun _ h => h) rfl dX5_isWon_32 ?_
      refine lv_lload hx hb dX5_isWon_35 (lv_at hl 0 rfl) ?_
      refine cpV (As := [.long (lN (min a b))]) (rest := [.long (lN (max a b))]) (k_X1_cut l D cA M go (min a b) hG0 (by omega)) ⟨hx, hb, hml, hown, hts⟩ (cwV 1 hts gX5_isWon_X1_cut rfl rfl rfl (by decide +kernel) ⟨by decide, by decide⟩) hK hM hg rfl rfl hl.1 rfl (Nat.le_of_ble_eq_true rfl) dX5_isWon_37 ⟨by decide, by decide⟩ ?_
      refine bl_le (tgt := 48) hx hb dX5_isWon_40 dX5_isWon_41 (by decide) (fun c_41 n_41 => ?_) (fun c_41 n_41 => ?_)
      · skip
        have h41 : ¬ cutF (min a b) < max a b := fun z => n_41 ((ln_lt (by omega) (by omega)).mpr z)
        refine lv_iconst (v := 0) hx hb dX5_isWon_48 (by decide) ?_
        exact hret _ _ _ dX5_isWon_49 (by unfold shF; rw [decide_eq_true h18, decide_eq_false h26, decide_eq_false h41]; rfl)
      · skip
        have h41 : cutF (min a b) < max a b := (ln_lt (by omega) (by omega)).mp c_41
        refine lv_iconst (v := 1) hx hb dX5_isWon_44 (by decide) ?_
        refine lv_goto (tgt := 49) hx hb dX5_isWon_45 (by decide) ?_
        exact hret _ _ _ dX5_isWon_49 (by unfold shF; rw [decide_eq_true h18, decide_eq_false h26, decide_eq_true h41]; rfl)
set_option maxHeartbeats 4000000 in
set_option maxRecDepth 100000 in
theorem k_X5_leastTimes (l : Launch) (D : va_G) (cA : Nat → ClassId) (M : mp) (sg go a b : Nat) (hsg : M sg = some (.inr (5, [.ref go]))) (hG : goldW cA M go) (ha : a ≤ 1000000000000) (hb0 : b ≤ 1000000000000) : PC l D cA yX5_leastTimes wsX5_leastTimes 3 77 [.ref sg, .long (lN a), .long (lN b)] M (some (.long (lN (smF (max a b) (min a b))))) := by
  refine PC.lg (cc := cX5_leastTimes) (maxL := 13) (by decide) rfl (Nat.le_of_ble_eq_true rfl) ?_
  intro p e s m args below meth c H Q ls B hM hl hret
  obtain ⟨hx, hb, hown, hts, hml, hK, hin⟩ := B
  have hown : s.vm.findClass RX5 = some m.cls := hown
  have hl : lv_has ls 13 [(0, .ref sg), (1, .long (lN a)), (3, .long (lN b))] := hl
  have ml_13 := hts (.methodLink RX5 13 Lib.MathLoose.max_long.x) (by decide +kernel)
  have ms_13 := hts (.static Lib.MathLoose.max_long.x) (by decide +kernel)
  have mi_math := hts (.initialized "java/lang/Math") (by decide +kernel)
  have mc_13 := hts (.code Lib.MathLoose.max_long.x Lib.MathLoose.max_long.code 4 (some .long)) (by decide +kernel)
  have ml_19 := hts (.methodLink RX5 19 Lib.MathLoose.min_long.x) (by decide +kernel)
  have ms_19 := hts (.static Lib.MathLoose.min_long.x) (by decide +kernel)
  have mc_19 := hts (.code Lib.MathLoose.min_long.x Lib.MathLoose.min_long.code 4 (some .long)) (by decide +kernel)
  have hG0 := hG
  obtain ⟨s2, n2, f, hg, hs2, hn2, hf⟩ := hG
  have hmn : min a b ≤ 1000000000000 := by omega
  have hmx : max a b ≤ 1000000000000 := by omega
  have hcm := cut_le (k := min a b) (by omega)
  refine lv_lload_n hx hb dX5_leastTimes_0 rfl (lv_at hl 1 rfl) ?_
  refine lv_lload_n hx hb dX5_leastTimes_1 rfl (lv_at hl 2 rfl) ?_
  refine va_mmax_long hx hb (by rw [hml]; exact hl.1.symm) hown ml_13 ms_13 mi_math mc_13 (Nat.le_of_ble_eq_true rfl) (Nat.le_of_ble_eq_true rfl) (Nat.le_of_ble_eq_true rfl) (Nat.le_of_ble_eq_true rfl) dX5_leastTimes_2 ?_
  refine tpl (x' := lN (max a b)) (max_lN (by omega) (by omega)) ?_
  refine lv_lstore (lv' := [(5, .long (lN (max a b))), (0, .ref sg), (1, .long (lN a)), (3, .long (lN b))]) hx hb dX5_leastTimes_5 hl (by decide) rfl (fun ls hl => ?_)
  refine lv_lload_n hx hb dX5_leastTimes_7 rfl (lv_at hl 2 rfl) ?_
  refine lv_lload_n hx hb dX5_leastTimes_8 rfl (lv_at hl 3 rfl) ?_
  refine va_mmin_long hx hb (by rw [hml]; exact hl.1.symm) hown ml_19 ms_19 mi_math mc_19 (Nat.le_of_ble_eq_true rfl) (Nat.le_of_ble_eq_true rfl) (Nat.le_of_ble_eq_true rfl) (Nat.le_of_ble_eq_true rfl) dX5_leastTimes_9 ?_
  refine tpl (x' := lN (min a b)) (min_lN (by omega) (by omega)) ?_
  refine lv_lstore (lv' := [(7, .long (lN (min a b))), (5, .long (lN (max a b))), (0, .ref sg), (1, .long (lN a)), (3, .long (lN b))]) hx hb dX5_leastTimes_12 hl (by decide) rfl (fun ls hl => ?_)
  refine lv_lload hx hb dX5_leastTimes_14 (lv_at hl 0 rfl) ?_
  refine lv_lconst (v := 0) hx hb dX5_leastTimes_16 (by decide) ?_
  refine bl_gt (tgt := 23) hx hb dX5_leastTimes_17 dX5_leastTimes_18 (by decide) (fun c_18 n_18 => ?_) (fun c_18 n_18 => ?_)
  · skip
    have h0 : 1 ≤ min a b := (ln_lt (by decide) (by omega)).mp (by rw [← l_0]; exact c_18)
    have d1 : max a b / min a b * min a b ≤ max a b := Nat.div_mul_le_self _ _
    have d3 : 1 ≤ max a b / min a b := (Nat.le_div_iff_mul_le (by omega)).mpr (by omega)
    have d4 : max a b / min a b ≤ max a b := Nat.div_le_self _ _
    have hlt := lt_sm h0 (by omega) hmx
    generalize hkk : max a b / min a b = k at *
    refine lv_lload hx hb dX5_leastTimes_23 (lv_at hl 1 rfl) ?_
    refine lv_lload hx hb dX5_leastTimes_25 (lv_at hl 0 rfl) ?_
    refine lv_ldiv hx hb dX5_leastTimes_27 (fun z => by have := (ln_eq (by omega) (by decide)).mp (show lN (min a b) = lN 0 by rw [z]; rfl); omega) ?_
    refine tpl (x' := lN k) (by rw [← hkk]; exact pk_lDiv (by omega) (by omega) (by omega)) ?_
    refine lv_lstore (lv' := [(9, .long (lN k)), (7, .long (lN (min a b))), (5, .long (lN (max a b))), (0, .ref sg), (1, .long (lN a)), (3, .long (lN b))]) hx hb dX5_leastTimes_28 hl (by decide) rfl (fun ls hl => ?_)
    refine lv_lconst (v := 1) hx hb dX5_leastTimes_30 (by decide) ?_
    refine lv_lload hx hb dX5_leastTimes_31 (lv_at hl 0 rfl) ?_
    refine lv_lconst (v := 1) hx hb dX5_leastTimes_33 (by decide) ?_
    refine lv_lsub hx hb dX5_leastTimes_34 ?_
    refine tpl (x' := lN (k - 1)) (by rw [l_1]; exact lN_sub d3) ?_
    refine va_mmax_long hx hb (by rw [hml]; exact hl.1.symm) hown ml_13 ms_13 mi_math mc_13 (Nat.le_of_ble_eq_true rfl) (Nat.le_of_ble_eq_true rfl) (Nat.le_of_ble_eq_true rfl) (Nat.le_of_ble_eq_true rfl) dX5_leastTimes_35 ?_
    refine tpl (x' := lN (max 1 (k - 1))) (by rw [l_1]; exact max_lN (by omega) (by omega)) ?_
    refine lv_lstore (lv' := [(11, .long (lN (max 1 (k - 1)))), (9, .long (lN k)), (7, .long (lN (min a b))), (5, .long (lN (max a b))), (0, .ref sg), (1, .long (lN a)), (3, .long (lN b))]) hx hb dX5_leastTimes_38 hl (by decide) rfl (fun ls hl => ?_)
    have j_40 : ∀ (fu : Nat) (mm : Nat) (ls : Array Slot), (mm ≤ k + 1) → (ltF (max a b) (min a b) (k + 1 - mm) mm = smF (max a b) (min a b)) → (k + 1 - mm < fu) → lv_has ls 13 [(0, .ref sg), (5, .long (lN (max a b))), (7, .long (lN (min a b))), (9, .long (lN k)), (11, .long (lN mm))] → W p l e ({ frames := 3, cells := 0, slots := 0, locals := 77 } : Room) s m args below meth c H [] 0 0 Q (F0 m 40 ls []) := by
      intro fu
      induction fu with
      | zero => intro mm ls hmm hs hm _; exact absurd hm (Nat.not_lt_zero _)
      | succ fu ih =>
        intro mm ls hmm hs hm hl
        refine lv_lload hx hb dX5_leastTimes_40 (lv_at hl 4 rfl) ?_
        refine lv_lload hx hb dX5_leastTimes_42 (lv_at hl 3 rfl) ?_
        refine bl_gt (tgt := 77) hx hb dX5_leastTimes_44 dX5_leastTimes_45 (by decide) (fun c_45 n_45 => ?_) (fun c_45 n_45 => ?_)
        · skip
          have h45 : k < mm := (ln_lt (by omega) (by omega)).mp c_45
          refine lv_lconst (v := 0) hx hb dX5_leastTimes_77 (by decide) ?_
          exact hret _ _ _ dX5_leastTimes_78 (by rw [← hs, show k + 1 - mm = 0 by omega]; rfl)
        · skip
          have h45 : mm ≤ k := (ln_le (by omega) (by omega)).mp c_45
          have hmk : mm * min a b ≤ max a b := Nat.le_trans (Nat.mul_le_mul_right _ h45) d1
          refine lv_aload_n hx hb dX5_leastTimes_48 rfl (lv_at hl 0 rfl) ?_
          refine lv_lload hx hb dX5_leastTimes_49 (lv_at hl 1 rfl) ?_
          refine lv_lload hx hb dX5_leastTimes_51 (lv_at hl 4 rfl) ?_
          refine lv_lload hx hb dX5_leastTimes_53 (lv_at hl 2 rfl) ?_
          refine lv_lmul hx hb dX5_leastTimes_55 ?_
          refine tpl (x' := lN (mm * min a b)) (lN_mul _ _) ?_
          refine lv_lsub hx hb dX5_leastTimes_56 ?_
          refine tpl (x' := lN (max a b - mm * min a b)) (lN_sub hmk) ?_
          refine lv_lload hx hb dX5_leastTimes_57 (lv_at hl 2 rfl) ?_
          refine cpV (As := [.long (lN (max a b - mm * min a b)), .long (lN (min a b))]) (rest := []) (k_X5_isWon l D cA M sg go (max a b - mm * min a b) (min a b) hsg hG0 (by omega) (by omega)) ⟨hx, hb, hml, hown, hts⟩ (cwV 2 hts gX5_leastTimes_X5_isWon rfl rfl rfl (by decide +kernel) ⟨by decide, by decide⟩) hK hM hsg rfl rfl hl.1 rfl (Nat.le_of_ble_eq_true rfl) dX5_leastTimes_59 ⟨by decide, by decide⟩ ?_
          refine bz_ne (tgt := 68) hx hb dX5_leastTimes_62 (by decide) (fun c_62 n_62 => ?_) (fun c_62 n_62 => ?_)
          · skip
            have hwn := bI_ne0 c_62
            refine lv_lload hx hb dX5_leastTimes_68 (lv_at hl 4 rfl) ?_
            refine lv_lconst (v := 1) hx hb dX5_leastTimes_70 (by decide) ?_
            refine lv_ladd hx hb dX5_leastTimes_71 ?_
            refine tpl (x' := lN (mm + 1)) (by rw [l_1]; exact lN_add _ _) ?_
            refine lv_lstore (lv' := [(11, .long (lN (mm + 1))), (0, .ref sg), (5, .long (lN (max a b))), (7, .long (lN (min a b))), (9, .long (lN k))]) hx hb dX5_leastTimes_72 hl (by decide) rfl (fun ls hl => ?_)
            refine lv_goto (tgt := 40) hx hb dX5_leastTimes_74 (by decide) ?_
            exact ih (mm + 1) _ (by omega) (by rw [← hs, show k + 1 - mm = (k + 1 - (mm + 1)) + 1 by omega]; show _ = (if shF (max a b - mm * min a b) (min a b) then _ else _); rw [if_pos hwn]) (by omega) (lv_sub hl [1, 2, 3, 4, 0] rfl)
          · skip
            have hwn := bI_eq0 c_62
            refine lv_lload hx hb dX5_leastTimes_65 (lv_at hl 4 rfl) ?_
            exact hret _ _ _ dX5_leastTimes_67 (by rw [← hs, show k + 1 - mm = (k - mm) + 1 by omega]; show _ = lN (if shF (max a b - mm * min a b) (min a b) then _ else _); rw [if_neg (by rw [hwn]; decide)])
    exact j_40 (k + 2) (max 1 (k - 1)) _ (by omega) hlt (by omega) (lv_sub hl [4, 3, 2, 1, 0] rfl)
  · skip
    have h0 : min a b = 0 := by have := (ln_le (by omega) (by decide)).mp (show lN (min a b) ≤ lN 0 by rw [← l_0]; exact c_18); omega
    refine lv_lconst (v := 0) hx hb dX5_leastTimes_21 (by decide) ?_
    exact hret _ _ _ dX5_leastTimes_22 (by rw [h0, smF_0]; rfl)
