set_option maxHeartbeats 4000000 in
set_option maxRecDepth 100000 in
theorem k_X9_find (l : Launch) (D : va_G) (cA : Nat → ClassId) (M : mp) (m0 : Nat) (v : Nat → Value) (fb : Nat) (f : Nat → Int64) (n : Nat) (hR : M m0 = some (.inr (9, rL v))) (hv0 : v 0 = .ref fb) (hfb : M fb = some (.inl (cA 0, 64, .inr (.inl f)))) (hf : ∀ j, j < 64 → f j = lN (fibN j)) (hn : n ≤ 1000000000000) : MC l D cA yX9_find wsX9_find 1 27 0 0 [.ref m0, .long (lN n)] M (fun r M' => r = none ∧ (∃ v', M' m0 = some (.inr (9, rL v')) ∧ v' 15 = .long (lN (idF n)) ∧ v' 16 = .int (bI (isLF n)) ∧ agr v v') ∧ kpL M M' [m0]) := by
  refine MC.of (cc := cX9_find) (maxL := 9) (ret := none) (by decide) rfl (Nat.le_of_ble_eq_true rfl) ?_
  intro p e s m args below meth c Q ls B hh hl hretv hreti hretz hretl hreta
  obtain ⟨hx, hb, hown, hts, hml, hK, hin⟩ := B
  have hM := hh.1
  have hkp : kpL M M [m0] := kpL.rf M _
  have hown : s.vm.findClass RX9 = some m.cls := hown
  have hl : lv_has ls 9 [(0, .ref m0), (1, .long (lN n))] := hl
  have in_X9 : ∀ w ∈ wsX90, w ∈ wsX9_find := by decide +kernel
  have fl_71 := hts (.fieldLink RX9 71 "GoldHeapsModel" "foundK" "J") (by decide +kernel)
  have fl_75 := hts (.fieldLink RX9 75 "GoldHeapsModel" "foundLesser" "Z") (by decide +kernel)
  have cst_46 := hts (.constantLong RX9 46 (2)) (by decide +kernel)
  refine lv_lconst (v := 0) hx hb dX9_find_0 (by decide) ?_
  refine tpl (x' := lN 0) (l_0) ?_
  refine lv_lstore_n (lv' := [(3, .long (lN 0)), (0, .ref m0), (1, .long (lN n))]) hx hb dX9_find_1 rfl hl (by decide) rfl (fun ls hl => ?_)
  refine lv_lload_n hx hb dX9_find_2 rfl (lv_at hl 2 rfl) ?_
  refine lv_lstore (lv' := [(5, .long (lN n)), (3, .long (lN 0)), (0, .ref m0), (1, .long (lN n))]) hx hb dX9_find_3 hl (by decide) rfl (fun ls hl => ?_)
  have j_5 : ∀ (fu : Nat) (lo hi : Nat) (M1 : mp) (H : Heap) (locs : List Loc) (ls : Array Slot), (lo ≤ idxF n) → (idxF n ≤ hi) → (hi ≤ n) → (hw D M s.heap M1 H locs) → (kpL M M1 [m0]) → (M1 m0 = some (.inr (9, rL v))) → (M1 fb = some (.inl (cA 0, 64, .inr (.inl f)))) → (hi - lo < fu) → lv_has ls 9 [(0, .ref m0), (1, .long (lN n)), (3, .long (lN lo)), (5, .long (lN hi))] → W p l e ({ frames := 1, cells := 0, slots := 0, locals := 27 } : Room) s m args below meth c H locs 0 0 Q (F0 m 5 ls []) := by
    intro fu
    induction fu with
    | zero => intro lo hi M1 H locs ls h1 h2 h3 hh hkp hR hfb hm_5 _; exact absurd hm_5 (Nat.not_lt_zero _)
    | succ fu ih_5 =>
      intro lo hi M1 H locs ls h1 h2 h3 hh hkp hR hfb hm_5 hl
      have hM := hh.1
      refine lv_lload_n hx hb dX9_find_5 rfl (lv_at hl 2 rfl) ?_
      refine lv_lload hx hb dX9_find_6 (lv_at hl 3 rfl) ?_
      refine bl_ge (tgt := 50) hx hb dX9_find_8 dX9_find_9 (by decide) (fun c_9 n_9 => ?_) (fun c_9 n_9 => ?_)
      · skip
        have hge : hi ≤ lo := (ln_le (by omega) (by omega)).mp c_9
        have hlo : lo = idxF n := by omega
        have hxi := idx_le hn
        have hci := cut_le (k := idxF n) (by omega)
        refine lv_aload_n hx hb dX9_find_50 rfl (lv_at hl 0 rfl) ?_
        refine lv_lload_n hx hb dX9_find_51 rfl (lv_at hl 2 rfl) ?_
        refine tpl (x' := lN (idxF n)) (by rw [hlo]) ?_
        refine m_put (ci := 9) (C := RX9) (T := TX9) (N := 18) (v := .long (lN (idxF n))) hx hb hts in_X9 tyX9 tyX9_ok nmX9 hown hK hh hR rfl 15 (by decide) fl_71 (fun _ h => h) rfl (ty := tyX9 15) (by decide +kernel) (rfl) (rfl) (Nat.le_of_ble_eq_true rfl) dX9_find_52 (fun M1 H1 locs1 e1 hh => ?_)
        have hfb := mu_kp e1 (mp_ne hfb hR (by simp)) hfb
        have hR := mu_at e1
        have hkp := hkp.put e1 (by simp)
        have hR : M1 m0 = some (.inr (9, rL (va_up v 15 (.long (lN (idxF n)))))) := hR
        have hM := hh.1
        refine lv_aload_n hx hb dX9_find_55 rfl (lv_at hl 0 rfl) ?_
        refine lv_aload_n hx hb dX9_find_56 rfl (lv_at hl 0 rfl) ?_
        refine lv_lload_n hx hb dX9_find_57 rfl (lv_at hl 2 rfl) ?_
        refine tpl (x' := lN (idxF n)) (by rw [hlo]) ?_
        refine cpV (As := [.long (lN (idxF n))]) (rest := [.ref m0]) (k_X9_lesser l D cA _ m0 (idxF n) ⟨_, fb, f, hR, (va_up_ne _ _ (by decide)).trans (hv0), hfb, hf⟩ (by omega)) ⟨hx, hb, hml, hown, hts⟩ (cwV 1 hts gX9_find_X9_lesser rfl rfl rfl (by decide +kernel) ⟨by decide, by decide⟩) hK hM hR rfl rfl hl.1 rfl (Nat.le_of_ble_eq_true rfl) dX9_find_58 ⟨by decide, by decide⟩ ?_
        refine lv_lload_n hx hb dX9_find_61 rfl (lv_at hl 1 rfl) ?_
        refine bl_ne (tgt := 70) hx hb dX9_find_62 dX9_find_63 (by decide) (fun c_63 n_63 => ?_) (fun c_63 n_63 => ?_)
        · skip
          have hisl : isLF n = false := by unfold isLF; simp; exact fun z => c_63 (by rw [z])
          refine lv_iconst (v := 0) hx hb dX9_find_70 (by decide) ?_
          refine tpi (x' := bI (isLF n)) (by rw [hisl]; rfl) ?_
          refine m_put (ci := 9) (C := RX9) (T := TX9) (N := 18) (v := .int (bI (isLF n))) hx hb hts in_X9 tyX9 tyX9_ok nmX9 hown hK hh hR rfl 16 (by decide) fl_75 (fun _ h => h) rfl (ty := tyX9 16) (by decide +kernel) (bI_nar _) (by cases isLF n <;> rfl) (Nat.le_of_ble_eq_true rfl) dX9_find_71 (fun M1 H1 locs1 e1 hh => ?_)
          have hfb := mu_kp e1 (mp_ne hfb hR (by simp)) hfb
          have hR := mu_at e1
          have hkp := hkp.put e1 (by simp)
          have hR : M1 m0 = some (.inr (9, rL (va_up (va_up v 15 (.long (lN (idxF n)))) 16 (.int (bI (isLF n)))))) := hR
          have hM := hh.1
          refine lv_aload_n hx hb dX9_find_74 rfl (lv_at hl 0 rfl) ?_
          refine m_get (ci := 9) (C := RX9) (T := TX9) (N := 18) (v := (va_up (va_up v 15 (.long (lN (idxF n)))) 16 (.int (bI (isLF n)))) 16) hx hb hts in_X9 hown hK hM hR rfl 16 (by decide) fl_75 (fun _ h => h) rfl dX9_find_75 ?_
          refine tpv (va_up_self _ _ _) ?_
          refine bz_eq (tgt := 82) hx hb dX9_find_78 (by decide) (fun c_78 n_78 => ?_) (fun c_78 n_78 => ?_)
          · skip
            have hl0 := bI_eq0 c_78
            refine lv_lconst (v := 0) hx hb dX9_find_82 (by decide) ?_
            refine tpl (x' := lN 0) (l_0) ?_
            refine lv_lstore_n (lv' := [(3, .long (lN 0)), (0, .ref m0), (1, .long (lN n)), (5, .long (lN hi))]) hx hb dX9_find_83 rfl hl (by decide) rfl (fun ls hl => ?_)
            refine lv_lload_n hx hb dX9_find_84 rfl (lv_at hl 2 rfl) ?_
            refine lv_lstore (lv' := [(5, .long (lN n)), (3, .long (lN 0)), (0, .ref m0), (1, .long (lN n))]) hx hb dX9_find_85 hl (by decide) rfl (fun ls hl => ?_)
            have j_87 : ∀ (fu : Nat) (lo hi : Nat) (M1 : mp) (H : Heap) (locs : List Loc) (ls : Array Slot), (lo ≤ 2 * n - cutF n) → (2 * n - cutF n ≤ hi) → (hi ≤ n) → (hw D M s.heap M1 H locs) → (kpL M M1 [m0]) → (M1 m0 = some (.inr (9, rL (va_up (va_up v 15 (.long (lN (idxF n)))) 16 (.int (bI (isLF n))))))) → (M1 fb = some (.inl (cA 0, 64, .inr (.inl f)))) → (hi - lo < fu) → lv_has ls 9 [(0, .ref m0), (1, .long (lN n)), (3, .long (lN lo)), (5, .long (lN hi))] → W p l e ({ frames := 1, cells := 0, slots := 0, locals := 27 } : Room) s m args below meth c H locs 0 0 Q (F0 m 87 ls []) := by
              intro fu
              induction fu with
              | zero => intro lo hi M1 H locs ls h1 h2 h3 hh hkp hR hfb hm_87 _; exact absurd hm_87 (Nat.not_lt_zero _)
              | succ fu ih_87 =>
                intro lo hi M1 H locs ls h1 h2 h3 hh hkp hR hfb hm_87 hl
                have hM := hh.1
                refine lv_lload_n hx hb dX9_find_87 rfl (lv_at hl 2 rfl) ?_
                refine lv_lload hx hb dX9_find_88 (lv_at hl 3 rfl) ?_
                refine bl_ge (tgt := 135) hx hb dX9_find_90 dX9_find_91 (by decide) (fun c_91 n_91 => ?_) (fun c_91 n_91 => ?_)
                · skip
                  have hge : hi ≤ lo := (ln_le (by omega) (by omega)).mp c_91
                  have hlo : lo = 2 * n - cutF n := by omega
                  refine lv_aload_n hx hb dX9_find_135 rfl (lv_at hl 0 rfl) ?_
                  refine lv_lload_n hx hb dX9_find_136 rfl (lv_at hl 2 rfl) ?_
                  refine tpl (x' := lN (2 * n - cutF n)) (by rw [hlo]) ?_
                  refine m_put (ci := 9) (C := RX9) (T := TX9) (N := 18) (v := .long (lN (2 * n - cutF n))) hx hb hts in_X9 tyX9 tyX9_ok nmX9 hown hK hh hR rfl 15 (by decide) fl_71 (fun _ h => h) rfl (ty := tyX9 15) (by decide +kernel) (rfl) (rfl) (Nat.le_of_ble_eq_true rfl) dX9_find_137 (fun M1 H1 locs1 e1 hh => ?_)
                  have hfb := mu_kp e1 (mp_ne hfb hR (by simp)) hfb
                  have hR := mu_at e1
                  have hkp := hkp.put e1 (by simp)
                  have hR : M1 m0 = some (.inr (9, rL (va_up (va_up (va_up v 15 (.long (lN (idxF n)))) 16 (.int (bI (isLF n)))) 15 (.long (lN (2 * n - cutF n)))))) := hR
                  have hM := hh.1
                  exact hretv _ _ _ _ _ _ _ hh (⟨rfl, ⟨_, hR, by rw [va_up_self]; unfold idF; rw [hl0]; rfl, rfl, fun k h1 h2 => (va_up_ne _ _ h1).trans ((va_up_ne _ _ h2).trans (va_up_ne _ _ h1))⟩, hkp⟩) (by decide) (by decide) dX9_find_140 rfl
                · skip
                  have hlt : lo < hi := (ln_lt (by omega) (by omega)).mp c_91
                  obtain ⟨mi, hmi⟩ : ∃ mi, mi = lo + (hi - lo) / 2 := ⟨_, rfl⟩
                  have hmi1 : lo ≤ mi := by omega
                  have hmi2 : mi < hi := by omega
                  have hcm := cut_le (k := mi) (by omega)
                  refine lv_lload_n hx hb dX9_find_94 rfl (lv_at hl 2 rfl) ?_
                  refine lv_lload hx hb dX9_find_95 (lv_at hl 3 rfl) ?_
                  refine lv_lload_n hx hb dX9_find_97 rfl (lv_at hl 2 rfl) ?_
                  refine lv_lsub hx hb dX9_find_98 ?_
                  refine tpl (x' := lN (hi - lo)) (lN_sub (by omega)) ?_
                  refine lv_ldc2 hx hb hown cst_46 dX9_find_99 ?_
                  refine lv_ldiv hx hb dX9_find_102 (by decide) ?_
                  refine tpl (x' := lN (hi - lo) / lN 2) (by rw [l_2]) ?_
                  refine lv_ladd hx hb dX9_find_103 ?_
                  refine tpl (x' := lN mi) (by rw [mid_lN (by omega) (by omega), hmi]) ?_
                  refine lv_lstore (lv' := [(7, .long (lN mi)), (0, .ref m0), (1, .long (lN n)), (3, .long (lN lo)), (5, .long (lN hi))]) hx hb dX9_find_104 hl (by decide) rfl (fun ls hl => ?_)
                  refine lv_aload_n hx hb dX9_find_106 rfl (lv_at hl 1 rfl) ?_
                  refine lv_lload hx hb dX9_find_107 (lv_at hl 0 rfl) ?_
                  refine cpV (As := [.long (lN mi)]) (rest := []) (k_X9_lesser l D cA _ m0 (mi) ⟨_, fb, f, hR, (va_up_ne _ _ (by decide)).trans ((va_up_ne _ _ (by decide)).trans (hv0)), hfb, hf⟩ (by omega)) ⟨hx, hb, hml, hown, hts⟩ (cwV 1 hts gX9_find_X9_lesser rfl rfl rfl (by decide +kernel) ⟨by decide, by decide⟩) hK hM hR rfl rfl hl.1 rfl (Nat.le_of_ble_eq_true rfl) dX9_find_109 ⟨by decide, by decide⟩ ?_
                  refine lv_lload hx hb dX9_find_112 (lv_at hl 0 rfl) ?_
                  refine lv_ladd hx hb dX9_find_114 ?_
                  refine tpl (x' := lN (cutF mi + mi)) (lN_add _ _) ?_
                  refine lv_lload_n hx hb dX9_find_115 rfl (lv_at hl 2 rfl) ?_
                  refine bl_ge (tgt := 128) hx hb dX9_find_116 dX9_find_117 (by decide) (fun c_117 n_117 => ?_) (fun c_117 n_117 => ?_)
                  · skip
                    have hq : ¬ mi < 2 * n - cutF n := fun z => n_117 ((ln_lt (by omega) (by omega)).mpr ((idx_B hn (by omega)).mpr z))
                    refine lv_lload hx hb dX9_find_128 (lv_at hl 0 rfl) ?_
                    refine lv_lstore (lv' := [(5, .long (lN mi)), (7, .long (lN mi)), (0, .ref m0), (1, .long (lN n)), (3, .long (lN lo))]) hx hb dX9_find_130 hl (by decide) rfl (fun ls hl => ?_)
                    refine lv_goto (tgt := 87) hx hb dX9_find_132 (by decide) ?_
                    exact ih_87 lo mi _ _ _ _ h1 (by omega) (by omega) hh hkp hR hfb (by omega) (lv_sub hl [2, 3, 4, 0] rfl)
                  · skip
                    have hq : mi < 2 * n - cutF n := (idx_B hn (by omega)).mp ((ln_lt (by omega) (by omega)).mp c_117)
                    refine lv_lload hx hb dX9_find_120 (lv_at hl 0 rfl) ?_
                    refine lv_lconst (v := 1) hx hb dX9_find_122 (by decide) ?_
                    refine lv_ladd hx hb dX9_find_123 ?_
                    refine tpl (x' := lN (mi + 1)) (by rw [l_1]; exact lN_add _ _) ?_
                    refine lv_lstore_n (lv' := [(3, .long (lN (mi + 1))), (7, .long (lN mi)), (0, .ref m0), (1, .long (lN n)), (5, .long (lN hi))]) hx hb dX9_find_124 rfl hl (by decide) rfl (fun ls hl => ?_)
                    refine lv_goto (tgt := 132) hx hb dX9_find_125 (by decide) ?_
                    refine lv_goto (tgt := 87) hx hb dX9_find_132 (by decide) ?_
                    exact ih_87 (mi + 1) hi _ _ _ _ (by omega) h2 h3 hh hkp hR hfb (by omega) (lv_sub hl [2, 3, 0, 4] rfl)
            exact j_87 (n + 1) 0 n _ _ _ _ (Nat.zero_le _) (by have := cut_ge (k := n) (by omega); omega) (Nat.le_refl _) hh hkp hR hfb (by omega) (lv_sub hl [2, 3, 1, 0] rfl)
          · skip
            have hl1 := bI_ne0 c_78
            exact hretv _ _ _ _ _ _ _ hh (⟨rfl, ⟨_, hR, by unfold idF; rw [hl1]; rfl, rfl, fun k h1 h2 => (va_up_ne _ _ h2).trans (va_up_ne _ _ h1)⟩, hkp⟩) (by decide) (by decide) dX9_find_81 rfl
        · skip
          have hisl : isLF n = true := by unfold isLF; simp; exact (ln_eq (by omega) (by omega)).mp c_63
          refine lv_iconst (v := 1) hx hb dX9_find_66 (by decide) ?_
          refine tpi (x' := bI (isLF n)) (by rw [hisl]; rfl) ?_
          refine lv_goto (tgt := 71) hx hb dX9_find_67 (by decide) ?_
          refine m_put (ci := 9) (C := RX9) (T := TX9) (N := 18) (v := .int (bI (isLF n))) hx hb hts in_X9 tyX9 tyX9_ok nmX9 hown hK hh hR rfl 16 (by decide) fl_75 (fun _ h => h) rfl (ty := tyX9 16) (by decide +kernel) (bI_nar _) (by cases isLF n <;> rfl) (Nat.le_of_ble_eq_true rfl) dX9_find_71 (fun M1 H1 locs1 e1 hh => ?_)
          have hfb := mu_kp e1 (mp_ne hfb hR (by simp)) hfb
          have hR := mu_at e1
          have hkp := hkp.put e1 (by simp)
          have hR : M1 m0 = some (.inr (9, rL (va_up (va_up v 15 (.long (lN (idxF n)))) 16 (.int (bI (isLF n)))))) := hR
          have hM := hh.1
          refine lv_aload_n hx hb dX9_find_74 rfl (lv_at hl 0 rfl) ?_
          refine m_get (ci := 9) (C := RX9) (T := TX9) (N := 18) (v := (va_up (va_up v 15 (.long (lN (idxF n)))) 16 (.int (bI (isLF n)))) 16) hx hb hts in_X9 hown hK hM hR rfl 16 (by decide) fl_75 (fun _ h => h) rfl dX9_find_75 ?_
          refine tpv (va_up_self _ _ _) ?_
          refine bz_eq (tgt := 82) hx hb dX9_find_78 (by decide) (fun c_78 n_78 => ?_) (fun c_78 n_78 => ?_)
          · skip
            have hl0 := bI_eq0 c_78
            refine lv_lconst (v := 0) hx hb dX9_find_82 (by decide) ?_
            refine tpl (x' := lN 0) (l_0) ?_
            refine lv_lstore_n (lv' := [(3, .long (lN 0)), (0, .ref m0), (1, .long (lN n)), (5, .long (lN hi))]) hx hb dX9_find_83 rfl hl (by decide) rfl (fun ls hl => ?_)
            refine lv_lload_n hx hb dX9_find_84 rfl (lv_at hl 2 rfl) ?_
            refine lv_lstore (lv' := [(5, .long (lN n)), (3, .long (lN 0)), (0, .ref m0), (1, .long (lN n))]) hx hb dX9_find_85 hl (by decide) rfl (fun ls hl => ?_)
            have j_87 : ∀ (fu : Nat) (lo hi : Nat) (M1 : mp) (H : Heap) (locs : List Loc) (ls : Array Slot), (lo ≤ 2 * n - cutF n) → (2 * n - cutF n ≤ hi) → (hi ≤ n) → (hw D M s.heap M1 H locs) → (kpL M M1 [m0]) → (M1 m0 = some (.inr (9, rL (va_up (va_up v 15 (.long (lN (idxF n)))) 16 (.int (bI (isLF n))))))) → (M1 fb = some (.inl (cA 0, 64, .inr (.inl f)))) → (hi - lo < fu) → lv_has ls 9 [(0, .ref m0), (1, .long (lN n)), (3, .long (lN lo)), (5, .long (lN hi))] → W p l e ({ frames := 1, cells := 0, slots := 0, locals := 27 } : Room) s m args below meth c H locs 0 0 Q (F0 m 87 ls []) := by
              intro fu
              induction fu with
              | zero => intro lo hi M1 H locs ls h1 h2 h3 hh hkp hR hfb hm_87 _; exact absurd hm_87 (Nat.not_lt_zero _)
              | succ fu ih_87 =>
                intro lo hi M1 H locs ls h1 h2 h3 hh hkp hR hfb hm_87 hl
                have hM := hh.1
                refine lv_lload_n hx hb dX9_find_87 rfl (lv_at hl 2 rfl) ?_
                refine lv_lload hx hb dX9_find_88 (lv_at hl 3 rfl) ?_
                refine bl_ge (tgt := 135) hx hb dX9_find_90 dX9_find_91 (by decide) (fun c_91 n_91 => ?_) (fun c_91 n_91 => ?_)
                · skip
                  have hge : hi ≤ lo := (ln_le (by omega) (by omega)).mp c_91
                  have hlo : lo = 2 * n - cutF n := by omega
                  refine lv_aload_n hx hb dX9_find_135 rfl (lv_at hl 0 rfl) ?_
                  refine lv_lload_n hx hb dX9_find_136 rfl (lv_at hl 2 rfl) ?_
                  refine tpl (x' := lN (2 * n - cutF n)) (by rw [hlo]) ?_
                  refine m_put (ci := 9) (C := RX9) (T := TX9) (N := 18) (v := .long (lN (2 * n - cutF n))) hx hb hts in_X9 tyX9 tyX9_ok nmX9 hown hK hh hR rfl 15 (by decide) fl_71 (fun _ h => h) rfl (ty := tyX9 15) (by decide +kernel) (rfl) (rfl) (Nat.le_of_ble_eq_true rfl) dX9_find_137 (fun M1 H1 locs1 e1 hh => ?_)
                  have hfb := mu_kp e1 (mp_ne hfb hR (by simp)) hfb
                  have hR := mu_at e1
                  have hkp := hkp.put e1 (by simp)
                  have hR : M1 m0 = some (.inr (9, rL (va_up (va_up (va_up v 15 (.long (lN (idxF n)))) 16 (.int (bI (isLF n)))) 15 (.long (lN (2 * n - cutF n)))))) := hR
                  have hM := hh.1
                  exact hretv _ _ _ _ _ _ _ hh (⟨rfl, ⟨_, hR, by rw [va_up_self]; unfold idF; rw [hl0]; rfl, rfl, fun k h1 h2 => (va_up_ne _ _ h1).trans ((va_up_ne _ _ h2).trans (va_up_ne _ _ h1))⟩, hkp⟩) (by decide) (by decide) dX9_find_140 rfl
                · skip
                  have hlt : lo < hi := (ln_lt (by omega) (by omega)).mp c_91
                  obtain ⟨mi, hmi⟩ : ∃ mi, mi = lo + (hi - lo) / 2 := ⟨_, rfl⟩
                  have hmi1 : lo ≤ mi := by omega
                  have hmi2 : mi < hi := by omega
                  have hcm := cut_le (k := mi) (by omega)
                  refine lv_lload_n hx hb dX9_find_94 rfl (lv_at hl 2 rfl) ?_
                  refine lv_lload hx hb dX9_find_95 (lv_at hl 3 rfl) ?_
                  refine lv_lload_n hx hb dX9_find_97 rfl (lv_at hl 2 rfl) ?_
                  refine lv_lsub hx hb dX9_find_98 ?_
                  refine tpl (x' := lN (hi - lo)) (lN_sub (by omega)) ?_
                  refine lv_ldc2 hx hb hown cst_46 dX9_find_99 ?_
                  refine lv_ldiv hx hb dX9_find_102 (by decide) ?_
                  refine tpl (x' := lN (hi - lo) / lN 2) (by rw [l_2]) ?_
                  refine lv_ladd hx hb dX9_find_103 ?_
                  refine tpl (x' := lN mi) (by rw [mid_lN (by omega) (by omega), hmi]) ?_
                  refine lv_lstore (lv' := [(7, .long (lN mi)), (0, .ref m0), (1, .long (lN n)), (3, .long (lN lo)), (5, .long (lN hi))]) hx hb dX9_find_104 hl (by decide) rfl (fun ls hl => ?_)
                  refine lv_aload_n hx hb dX9_find_106 rfl (lv_at hl 1 rfl) ?_
                  refine lv_lload hx hb dX9_find_107 (lv_at hl 0 rfl) ?_
                  refine cpV (As := [.long (lN mi)]) (rest := []) (k_X9_lesser l D cA _ m0 (mi) ⟨_, fb, f, hR, (va_up_ne _ _ (by decide)).trans ((va_up_ne _ _ (by decide)).trans (hv0)), hfb, hf⟩ (by omega)) ⟨hx, hb, hml, hown, hts⟩ (cwV 1 hts gX9_find_X9_lesser rfl rfl rfl (by decide +kernel) ⟨by decide, by decide⟩) hK hM hR rfl rfl hl.1 rfl (Nat.le_of_ble_eq_true rfl) dX9_find_109 ⟨by decide, by decide⟩ ?_
                  refine lv_lload hx hb dX9_find_112 (lv_at hl 0 rfl) ?_
                  refine lv_ladd hx hb dX9_find_114 ?_
                  refine tpl (x' := lN (cutF mi + mi)) (lN_add _ _) ?_
                  refine lv_lload_n hx hb dX9_find_115 rfl (lv_at hl 2 rfl) ?_
                  refine bl_ge (tgt := 128) hx hb dX9_find_116 dX9_find_117 (by decide) (fun c_117 n_117 => ?_) (fun c_117 n_117 => ?_)
                  · skip
                    have hq : ¬ mi < 2 * n - cutF n := fun z => n_117 ((ln_lt (by omega) (by omega)).mpr ((idx_B hn (by omega)).mpr z))
                    refine lv_lload hx hb dX9_find_128 (lv_at hl 0 rfl) ?_
                    refine lv_lstore (lv' := [(5, .long (lN mi)), (7, .long (lN mi)), (0, .ref m0), (1, .long (lN n)), (3, .long (lN lo))]) hx hb dX9_find_130 hl (by decide) rfl (fun ls hl => ?_)
                    refine lv_goto (tgt := 87) hx hb dX9_find_132 (by decide) ?_
                    exact ih_87 lo mi _ _ _ _ h1 (by omega) (by omega) hh hkp hR hfb (by omega) (lv_sub hl [2, 3, 4, 0] rfl)
                  · skip
                    have hq : mi < 2 * n - cutF n := (idx_B hn (by omega)).mp ((ln_lt (by omega) (by omega)).mp c_117)
                    refine lv_lload hx hb dX9_find_120 (lv_at hl 0 rfl) ?_
                    refine lv_lconst (v := 1) hx hb dX9_find_122 (by decide) ?_
                    refine lv_ladd hx hb dX9_find_123 ?_
                    refine tpl (x' := lN (mi + 1)) (by rw [l_1]; exact lN_add _ _) ?_
                    refine lv_lstore_n (lv' := [(3, .long (lN (mi + 1))), (7, .long (lN mi)), (0, .ref m0), (1, .long (lN n)), (5, .long (lN hi))]) hx hb dX9_find_124 rfl hl (by decide) rfl (fun ls hl => ?_)
                    refine lv_goto (tgt := 132) hx hb dX9_find_125 (by decide) ?_
                    refine lv_goto (tgt := 87) hx hb dX9_find_132 (by decide) ?_
                    exact ih_87 (mi + 1) hi _ _ _ _ (by omega) h2 h3 hh hkp hR hfb (by omega) (lv_sub hl [2, 3, 0, 4] rfl)
            exact j_87 (n + 1) 0 n _ _ _ _ (Nat.zero_le _) (by have := cut_ge (k := n) (by omega); omega) (Nat.le_refl _) hh hkp hR hfb (by omega) (lv_sub hl [2, 3, 1, 0] rfl)
          · skip
            have hl1 := bI_ne0 c_78
            exact hretv _ _ _ _ _ _ _ hh (⟨rfl, ⟨_, hR, by unfold idF; rw [hl1]; rfl, rfl, fun k h1 h2 => (va_up_ne _ _ h2).trans (va_up_ne _ _ h1)⟩, hkp⟩) (by decide) (by decide) dX9_find_81 rfl
      · skip
        have hlt : lo < hi := (ln_lt (by omega) (by omega)).mp c_9
        obtain ⟨mi, hmi⟩ : ∃ mi, mi = lo + (hi - lo) / 2 := ⟨_, rfl⟩
        have hmi1 : lo ≤ mi := by omega
        have hmi2 : mi < hi := by omega
        have hcm := cut_le (k := mi) (by omega)
        refine lv_lload_n hx hb dX9_find_12 rfl (lv_at hl 2 rfl) ?_
        refine lv_lload hx hb dX9_find_13 (lv_at hl 3 rfl) ?_
        refine lv_lload_n hx hb dX9_find_15 rfl (lv_at hl 2 rfl) ?_
        refine lv_lsub hx hb dX9_find_16 ?_
        refine tpl (x' := lN (hi - lo)) (lN_sub (by omega)) ?_
        refine lv_ldc2 hx hb hown cst_46 dX9_find_17 ?_
        refine lv_ldiv hx hb dX9_find_20 (by decide) ?_
        refine tpl (x' := lN (hi - lo) / lN 2) (by rw [l_2]) ?_
        refine lv_ladd hx hb dX9_find_21 ?_
        refine tpl (x' := lN mi) (by rw [mid_lN (by omega) (by omega), hmi]) ?_
        refine lv_lstore (lv' := [(7, .long (lN mi)), (0, .ref m0), (1, .long (lN n)), (3, .long (lN lo)), (5, .long (lN hi))]) hx hb dX9_find_22 hl (by decide) rfl (fun ls hl => ?_)
        refine lv_aload_n hx hb dX9_find_24 rfl (lv_at hl 1 rfl) ?_
        refine lv_lload hx hb dX9_find_25 (lv_at hl 0 rfl) ?_
        refine cpV (As := [.long (lN mi)]) (rest := []) (k_X9_lesser l D cA _ m0 (mi) ⟨_, fb, f, hR, hv0, hfb, hf⟩ (by omega)) ⟨hx, hb, hml, hown, hts⟩ (cwV 1 hts gX9_find_X9_lesser rfl rfl rfl (by decide +kernel) ⟨by decide, by decide⟩) hK hM hR rfl rfl hl.1 rfl (Nat.le_of_ble_eq_true rfl) dX9_find_27 ⟨by decide, by decide⟩ ?_
        refine lv_lload_n hx hb dX9_find_30 rfl (lv_at hl 2 rfl) ?_
        refine bl_ge (tgt := 43) hx hb dX9_find_31 dX9_find_32 (by decide) (fun c_32 n_32 => ?_) (fun c_32 n_32 => ?_)
        · skip
          have hq : ¬ mi < idxF n := fun z => n_32 ((ln_lt (by omega) (by omega)).mpr ((idx_A hn (by omega)).mpr z))
          refine lv_lload hx hb dX9_find_43 (lv_at hl 0 rfl) ?_
          refine lv_lstore (lv' := [(5, .long (lN mi)), (7, .long (lN mi)), (0, .ref m0), (1, .long (lN n)), (3, .long (lN lo))]) hx hb dX9_find_45 hl (by decide) rfl (fun ls hl => ?_)
          refine lv_goto (tgt := 5) hx hb dX9_find_47 (by decide) ?_
          exact ih_5 lo mi _ _ _ _ h1 (by omega) (by omega) hh hkp hR hfb (by omega) (lv_sub hl [2, 3, 4, 0] rfl)
        · skip
          have hq : mi < idxF n := (idx_A hn (by omega)).mp ((ln_lt (by omega) (by omega)).mp c_32)
          refine lv_lload hx hb dX9_find_35 (lv_at hl 0 rfl) ?_
          refine lv_lconst (v := 1) hx hb dX9_find_37 (by decide) ?_
          refine lv_ladd hx hb dX9_find_38 ?_
          refine tpl (x' := lN (mi + 1)) (by rw [l_1]; exact lN_add _ _) ?_
          refine lv_lstore_n (lv' := [(3, .long (lN (mi + 1))), (7, .long (lN mi)), (0, .ref m0), (1, .long (lN n)), (5, .long (lN hi))]) hx hb dX9_find_39 rfl hl (by decide) rfl (fun ls hl => ?_)
          refine lv_goto (tgt := 47) hx hb dX9_find_40 (by decide) ?_
          refine lv_goto (tgt := 5) hx hb dX9_find_47 (by decide) ?_
          exact ih_5 (mi + 1) hi _ _ _ _ (by omega) h2 h3 hh hkp hR hfb (by omega) (lv_sub hl [2, 3, 0, 4] rfl)
  exact j_5 (n + 1) 0 n _ _ _ _ (Nat.zero_le _) (idx_le hn) (Nat.le_refl _) hh hkp hR hfb (by omega) (lv_sub hl [2, 3, 1, 0] rfl)
