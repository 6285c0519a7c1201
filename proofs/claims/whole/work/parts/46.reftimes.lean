set_option maxHeartbeats 1000000 in
set_option maxRecDepth 100000 in
theorem k_X9_timesByAll (l : Launch) (D : va_G) (cA : Nat → ClassId) (M : mp) (m0 : Nat) (v : Nat → Value) (td : Nat) (fd : Nat → Int32) (x n b : Int32)  (hR : M m0 = some (.inr (9, rL v))) (hv7 : v 7 = .ref td) (htd : M td = some (.inl (cA 2, 3721, .inl fd)))  : MC l D cA yX9_timesByAll wsX9_timesByAll 2 45 0 0 [.ref m0, .int x, .int n, .int b] M (fun r M' => r = some (.int (tbV x n b)) ∧ (∃ fd', M' td = some (.inl (cA 2, 3721, .inl fd'))) ∧ kpL M M' [td]) := by
  refine MC.of (cc := cX9_timesByAll) (maxL := 9) (ret := (some .int)) (by decide) rfl (Nat.le_of_ble_eq_true rfl) ?_
  intro p e s m args below meth c Q ls B hh hl hretv hreti hretz hretl hreta
  obtain ⟨hx, hb, hown, hts, hml, hK, hin⟩ := B
  have hM := hh.1
  have hM_0 := hh.1
  have hkp : kpL M M [td] := kpL.rf M _
  have hown : s.vm.findClass RX9 = some m.cls := hown
  have hl : lv_has ls 9 [(0, .ref m0), (1, .int x), (2, .int n), (3, .int b)] := hl
  have cst_125 := hts (.constantLong RX9 125 (60)) (by decide +kernel)
  have in_X9 : ∀ w ∈ wsX90, w ∈ wsX9_timesByAll := by decide +kernel
  have fl_29 := hts (.fieldLink RX9 29 "GoldHeapsModel" "timed" "[Z") (by decide +kernel)
  refine lv_iload_n hx hb dX9_timesByAll_0 rfl (lv_at hl 1 rfl) ?_
  refine cpS (As := [.int x]) (rest := []) (k_X9_isBy l D cA _ x) ⟨hx, hb, hml, hown, hts⟩ (va_cwS 1 hts gX9_timesByAll_X9_isBy rfl rfl rfl (by decide +kernel) ⟨by decide, by decide⟩) hK hM rfl hl.1 rfl (Nat.le_of_ble_eq_true rfl) dX9_timesByAll_1 ⟨by decide, by decide⟩ ?_
  refine bz_eq (tgt := 31) hx hb dX9_timesByAll_4 (by decide) (fun c_4 n_4 => ?_) (fun c_4 n_4 => ?_)
  · skip
    have h1 := bI_eq0 c_4
    refine lv_bipush (v := (-2)) hx hb dX9_timesByAll_31 (by decide) ?_
    exact hreti _ _ _ _ _ _ _ _ hh (⟨by simp [tbV, h1], ⟨_, htd⟩, hkp⟩) (by decide) (by decide) dX9_timesByAll_33 rfl
  · skip
    have h1 := bI_ne0 c_4
    refine lv_iload_n hx hb dX9_timesByAll_7 rfl (lv_at hl 2 rfl) ?_
    refine lv_i2l hx hb dX9_timesByAll_8 rfl ?_
    refine lv_lconst (v := 0) hx hb dX9_timesByAll_9 (by decide) ?_
    refine lv_ldc2 hx hb hown cst_125 dX9_timesByAll_10 ?_
    refine cpS (As := [.long ((n).toInt64), .long 0, .long 60]) (rest := []) (k_X9_in l D cA _ (n.toInt64) 0 60) ⟨hx, hb, hml, hown, hts⟩ (va_cwS 3 hts gX9_timesByAll_X9_in rfl rfl rfl (by decide +kernel) ⟨by decide, by decide⟩) hK hM rfl hl.1 rfl (Nat.le_of_ble_eq_true rfl) dX9_timesByAll_13 ⟨by decide, by decide⟩ ?_
    refine bz_eq (tgt := 31) hx hb dX9_timesByAll_16 (by decide) (fun c_16 n_16 => ?_) (fun c_16 n_16 => ?_)
    · skip
      have h2 := bI_eq0 c_16
      refine lv_bipush (v := (-2)) hx hb dX9_timesByAll_31 (by decide) ?_
      exact hreti _ _ _ _ _ _ _ _ hh (⟨by simp [tbV, h1, h2], ⟨_, htd⟩, hkp⟩) (by decide) (by decide) dX9_timesByAll_33 rfl
    · skip
      have h2 := bI_ne0 c_16
      refine lv_iload_n hx hb dX9_timesByAll_19 rfl (lv_at hl 3 rfl) ?_
      refine lv_i2l hx hb dX9_timesByAll_20 rfl ?_
      refine lv_lconst (v := 0) hx hb dX9_timesByAll_21 (by decide) ?_
      refine lv_ldc2 hx hb hown cst_125 dX9_timesByAll_22 ?_
      refine cpS (As := [.long ((b).toInt64), .long 0, .long 60]) (rest := []) (k_X9_in l D cA _ (b.toInt64) 0 60) ⟨hx, hb, hml, hown, hts⟩ (va_cwS 3 hts gX9_timesByAll_X9_in rfl rfl rfl (by decide +kernel) ⟨by decide, by decide⟩) hK hM rfl hl.1 rfl (Nat.le_of_ble_eq_true rfl) dX9_timesByAll_25 ⟨by decide, by decide⟩ ?_
      refine bz_ne (tgt := 34) hx hb dX9_timesByAll_28 (by decide) (fun c_28 n_28 => ?_) (fun c_28 n_28 => ?_)
      · skip
        have h3 := bI_ne0 c_28
        obtain ⟨ex, x1, x9⟩ := by_of h1
        obtain ⟨en, -, ln⟩ := in_i32 (a := 0) (b := 60) (by decide) h2 (by decide)
        obtain ⟨eb, -, lb⟩ := in_i32 (a := 0) (b := 60) (by decide) h3 (by decide)
        refine lv_iconst (v := 0) hx hb dX9_timesByAll_34 (by decide) ?_
        refine tpi (x' := nI 0) (rfl) ?_
        refine lv_istore (lv' := [(4, .int (nI 0)), (0, .ref m0), (1, .int x), (2, .int n), (3, .int b)]) hx hb dX9_timesByAll_35 hl (by decide) rfl (fun ls hl => ?_)
        have j_37 : ∀ (fu : Nat) (h : Nat) (f : Nat → Int32) (M1 : mp) (H : Heap) (locs : List Loc) (ls : Array Slot), (h ≤ nB n + 1) → (upR (nB x) h 0 f) → (hw D M s.heap M1 H locs) → (kpL M M1 [td]) → (M1 m0 = some (.inr (9, rL v))) → (M1 td = some (.inl (cA 2, 3721, .inl f))) → (62 - h < fu) → lv_has ls 9 [(0, .ref m0), (1, .int x), (2, .int n), (3, .int b), (4, .int (nI h))] → W p l e ({ frames := 2, cells := 0, slots := 0, locals := 45 } : Room) s m args below meth c H locs 0 0 Q (F0 m 37 ls []) := by
          intro fu
          induction fu with
          | zero => intro h f M1 H locs ls hh6 hup hh hkp hR htd hm_37 _; exact absurd hm_37 (Nat.not_lt_zero _)
          | succ fu ih_37 =>
            intro h f M1 H locs ls hh6 hup hh hkp hR htd hm_37 hl
            have hM := hh.1
            refine lv_iload hx hb dX9_timesByAll_37 (lv_at hl 4 rfl) ?_
            refine lv_iload_n hx hb dX9_timesByAll_39 rfl (lv_at hl 2 rfl) ?_
            refine bi_gt (tgt := 157) hx hb dX9_timesByAll_40 (by decide) (fun c_40 n_40 => ?_) (fun c_40 n_40 => ?_)
            · skip
              have q4 : nB n < h := (nI_ltI (by omega) (by omega)).mp (by rw [← en]; exact c_40)
              refine lv_aload_n hx hb dX9_timesByAll_157 rfl (lv_at hl 0 rfl) ?_
              refine m_get (ci := 9) (C := RX9) (T := TX9) (N := 18) (v := v 7) hx hb hts in_X9 hown hK hM hR rfl 7 (by decide) fl_29 (fun _ h => h) rfl dX9_timesByAll_158 ?_
              refine tpv (hv7) ?_
              refine lv_bipush (v := 61) hx hb dX9_timesByAll_161 (by decide) ?_
              refine lv_iload_n hx hb dX9_timesByAll_163 rfl (lv_at hl 2 rfl) ?_
              refine lv_imul hx hb dX9_timesByAll_164 ?_
              refine tpi (x' := nI (61 * nB n)) ((congrArg (61 * ·) en).trans (pk_mul 61 _)) ?_
              refine lv_iload_n hx hb dX9_timesByAll_165 rfl (lv_at hl 3 rfl) ?_
              refine lv_iadd hx hb dX9_timesByAll_166 ?_
              refine tpi (x' := nI (61 * nB n + nB b)) ((congrArg (nI (61 * nB n) + ·) eb).trans (nI_add _ _)) ?_
              refine m_zaldN (k := 61 * nB n + nB b) hx hb hK hM htd (rfl) (by omega) (by decide) dX9_timesByAll_167 ?_
              refine tpi (x' := bI (tbF (nB x) (nB n) (nB b))) (hup _ _ ln lb (Or.inl (by omega))) ?_
              refine bz_eq (tgt := 175) hx hb dX9_timesByAll_168 (by decide) (fun c_168 n_168 => ?_) (fun c_168 n_168 => ?_)
              · skip
                have h5 := bI_eq0 c_168
                refine lv_iconst (v := 0) hx hb dX9_timesByAll_175 (by decide) ?_
                exact hreti _ _ _ _ _ _ _ _ hh (⟨by unfold tbV; rw [show byB x = true from h1, h2, h3, if_pos t3, h5]; rfl, ⟨_, htd⟩, hkp⟩) (by decide) (by decide) dX9_timesByAll_176 rfl
              · skip
                have h5 := bI_ne0 c_168
                refine lv_iconst (v := 1) hx hb dX9_timesByAll_171 (by decide) ?_
                refine lv_goto (tgt := 176) hx hb dX9_timesByAll_172 (by decide) ?_
                exact hreti _ _ _ _ _ _ _ _ hh (⟨by unfold tbV; rw [show byB x = true from h1, h2, h3, if_pos t3, h5]; rfl, ⟨_, htd⟩, hkp⟩) (by decide) (by decide) dX9_timesByAll_176 rfl
            · skip
              have q4 : h ≤ nB n := (nI_leI (by omega) (by omega)).mp (by rw [← en]; exact c_40)
              refine lv_iconst (v := 0) hx hb dX9_timesByAll_43 (by decide) ?_
              refine tpi (x' := nI 0) (rfl) ?_
              refine lv_istore (lv' := [(5, .int (nI 0)), (0, .ref m0), (1, .int x), (2, .int n), (3, .int b), (4, .int (nI h))]) hx hb dX9_timesByAll_44 hl (by decide) rfl (fun ls hl => ?_)
              have j_46 : ∀ (fu : Nat) (c1 : Nat) (f : Nat → Int32) (M1 : mp) (H : Heap) (locs : List Loc) (ls : Array Slot), (c1 ≤ 61) → (upR (nB x) h c1 f) → (hw D M s.heap M1 H locs) → (kpL M M1 [td]) → (M1 m0 = some (.inr (9, rL v))) → (M1 td = some (.inl (cA 2, 3721, .inl f))) → (61 - c1 < fu) → lv_has ls 9 [(0, .ref m0), (1, .int x), (2, .int n), (3, .int b), (4, .int (nI h)), (5, .int (nI c1))] → W p l e ({ frames := 2, cells := 0, slots := 0, locals := 45 } : Room) s m args below meth c H locs 0 0 Q (F0 m 46 ls []) := by
                intro fu
                induction fu with
                | zero => intro c1 f M1 H locs ls hc6 hup hh hkp hR htd hm_46 _; exact absurd hm_46 (Nat.not_lt_zero _)
                | succ fu ih_46 =>
                  intro c1 f M1 H locs ls hc6 hup hh hkp hR htd hm_46 hl
                  have hM := hh.1
                  refine lv_iload hx hb dX9_timesByAll_46 (lv_at hl 5 rfl) ?_
                  refine lv_bipush (v := 60) hx hb dX9_timesByAll_48 (by decide) ?_
                  refine bi_gt (tgt := 151) hx hb dX9_timesByAll_50 (by decide) (fun c_50 n_50 => ?_) (fun c_50 n_50 => ?_)
                  · skip
                    have q5 : 60 < c1 := (nI_ltI (a := 60) (by decide) (by omega)).mp c_50
                    refine lv_iinc (v := nI (h + 1)) (lv' := [(4, .int (nI (h + 1))), (0, .ref m0), (1, .int x), (2, .int n), (3, .int b), (5, .int (nI c1))]) hx hb dX9_timesByAll_151 hl (k := 4) rfl (nI_up _) (by decide) rfl (fun ls hl => ?_)
                    refine lv_goto (tgt := 37) hx hb dX9_timesByAll_154 (by decide) ?_
                    exact ih_37 (h + 1) f _ _ _ _ (by omega) (hup.row q5) hh hkp hR htd (by omega) (lv_sub hl [1, 2, 3, 4, 0] rfl)
                  · skip
                    have q5 : c1 ≤ 60 := (nI_leI (b := 60) (by omega) (by decide)).mp c_50
                    refine lv_iconst (v := 0) hx hb dX9_timesByAll_53 (by decide) ?_
                    refine tpi (x' := bI false) (rfl) ?_
                    refine lv_istore (lv' := [(6, .int (bI false)), (0, .ref m0), (1, .int x), (2, .int n), (3, .int b), (4, .int (nI h)), (5, .int (nI c1))]) hx hb dX9_timesByAll_54 hl (by decide) rfl (fun ls hl => ?_)
                    refine lv_iconst (v := 1) hx hb dX9_timesByAll_56 (by decide) ?_
                    refine tpi (x' := nI (0 + 1)) (rfl) ?_
                    refine lv_istore (lv' := [(7, .int (nI (0 + 1))), (6, .int (bI false)), (0, .ref m0), (1, .int x), (2, .int n), (3, .int b), (4, .int (nI h)), (5, .int (nI c1))]) hx hb dX9_timesByAll_57 hl (by decide) rfl (fun ls hl => ?_)
                    have j_59 : ∀ (fu : Nat) (k : Nat) (cn : Bool) (ls : Array Slot), (k ≤ min c1 h) → (cn = anB (stT (nB x) h) k) → (min c1 h - k < fu) → lv_has ls 9 [(0, .ref m0), (1, .int x), (2, .int n), (3, .int b), (4, .int (nI h)), (5, .int (nI c1)), (6, .int (bI cn)), (7, .int (nI (k + 1)))] → W p l e ({ frames := 2, cells := 0, slots := 0, locals := 45 } : Room) s m args below meth c H locs 0 0 Q (F0 m 59 ls []) := by
                      intro fu
                      induction fu with
                      | zero => intro k cn ls hk6 hcn hm_59 _; exact absurd hm_59 (Nat.not_lt_zero _)
                      | succ fu ih_59 =>
                        intro k cn ls hk6 hcn hm_59 hl
                        refine lv_iload hx hb dX9_timesByAll_59 (lv_at hl 7 rfl) ?_
                        refine lv_iload hx hb dX9_timesByAll_61 (lv_at hl 5 rfl) ?_
                        refine bi_gt (tgt := 130) hx hb dX9_timesByAll_63 (by decide) (fun c_63 n_63 => ?_) (fun c_63 n_63 => ?_)
                        · skip
                          have q6 : c1 < k + 1 := (nI_ltI (by omega) (by omega)).mp c_63
                          have ek : k = min c1 h := by omega
                          refine lv_aload_n hx hb dX9_timesByAll_130 rfl (lv_at hl 0 rfl) ?_
                          refine m_get (ci := 9) (C := RX9) (T := TX9) (N := 18) (v := v 7) hx hb hts in_X9 hown hK hM hR rfl 7 (by decide) fl_29 (fun _ h => h) rfl dX9_timesByAll_131 ?_
                          refine tpv (hv7) ?_
                          refine lv_bipush (v := 61) hx hb dX9_timesByAll_134 (by decide) ?_
                          refine lv_iload hx hb dX9_timesByAll_136 (lv_at hl 4 rfl) ?_
                          refine lv_imul hx hb dX9_timesByAll_138 ?_
                          refine tpi (x' := nI (61 * h)) (pk_mul 61 _) ?_
                          refine lv_iload hx hb dX9_timesByAll_139 (lv_at hl 5 rfl) ?_
                          refine lv_iadd hx hb dX9_timesByAll_141 ?_
                          refine tpi (x' := nI (61 * h + c1)) (nI_add _ _) ?_
                          refine lv_iload hx hb dX9_timesByAll_142 (lv_at hl 6 rfl) ?_
                          refine tpi (x' := bI (tbF (nB x) h c1)) (by rw [hcn, ek, tb_rec x1 x9 (by omega) (by omega)]) ?_
                          refine m_zastN (k := 61 * h + c1) hx hb hK hh htd (bI_01 _) (rfl) (by omega) (by decide) dX9_timesByAll_144 (fun M1 H1 locs1 e1 hh => ?_)
                          have hR := mu_kp e1 (mp_ne hR htd (by simp)) hR
                          have htd := mu_at e1
                          have hkp := hkp.put e1 (by simp)
                          have htd : M1 td = some (.inl (cA 2, 3721, .inl (upd f (61 * h + c1) (bI (tbF (nB x) h c1))))) := htd
                          have hM := hh.1
                          refine lv_iinc (v := nI (c1 + 1)) (lv' := [(5, .int (nI (c1 + 1))), (0, .ref m0), (1, .int x), (2, .int n), (3, .int b), (4, .int (nI h)), (6, .int (bI cn)), (7, .int (nI (k + 1)))]) hx hb dX9_timesByAll_145 hl (k := 5) rfl (nI_up _) (by decide) rfl (fun ls hl => ?_)
                          refine lv_goto (tgt := 46) hx hb dX9_timesByAll_148 (by decide) ?_
                          exact ih_46 (c1 + 1) ((upd f (61 * h + c1) (bI (tbF (nB x) h c1)))) _ _ _ _ (by omega) (hup.nxt (by omega)) hh hkp hR htd (by omega) (lv_sub hl [1, 2, 3, 4, 5, 0] rfl)
                        · skip
                          have q6 : k + 1 ≤ c1 := (nI_leI (by omega) (by omega)).mp c_63
                          refine lv_iload hx hb dX9_timesByAll_66 (lv_at hl 7 rfl) ?_
                          refine lv_iload hx hb dX9_timesByAll_68 (lv_at hl 4 rfl) ?_
                          refine bi_gt (tgt := 130) hx hb dX9_timesByAll_70 (by decide) (fun c_70 n_70 => ?_) (fun c_70 n_70 => ?_)
                          · skip
                            have q7 : h < k + 1 := (nI_ltI (by omega) (by omega)).mp c_70
                            have ek : k = min c1 h := by omega
                            refine lv_aload_n hx hb dX9_timesByAll_130 rfl (lv_at hl 0 rfl) ?_
                            refine m_get (ci := 9) (C := RX9) (T := TX9) (N := 18) (v := v 7) hx hb hts in_X9 hown hK hM hR rfl 7 (by decide) fl_29 (fun _ h => h) rfl dX9_timesByAll_131 ?_
                            refine tpv (hv7) ?_
                            refine lv_bipush (v := 61) hx hb dX9_timesByAll_134 (by decide) ?_
                            refine lv_iload hx hb dX9_timesByAll_136 (lv_at hl 4 rfl) ?_
                            refine lv_imul hx hb dX9_timesByAll_138 ?_
                            refine tpi (x' := nI (61 * h)) (pk_mul 61 _) ?_
                            refine lv_iload hx hb dX9_timesByAll_139 (lv_at hl 5 rfl) ?_
                            refine lv_iadd hx hb dX9_timesByAll_141 ?_
                            refine tpi (x' := nI (61 * h + c1)) (nI_add _ _) ?_
                            refine lv_iload hx hb dX9_timesByAll_142 (lv_at hl 6 rfl) ?_
                            refine tpi (x' := bI (tbF (nB x) h c1)) (by rw [hcn, ek, tb_rec x1 x9 (by omega) (by omega)]) ?_
                            refine m_zastN (k := 61 * h + c1) hx hb hK hh htd (bI_01 _) (rfl) (by omega) (by decide) dX9_timesByAll_144 (fun M1 H1 locs1 e1 hh => ?_)
                            have hR := mu_kp e1 (mp_ne hR htd (by simp)) hR
                            have htd := mu_at e1
                            have hkp := hkp.put e1 (by simp)
                            have htd : M1 td = some (.inl (cA 2, 3721, .inl (upd f (61 * h + c1) (bI (tbF (nB x) h c1))))) := htd
                            have hM := hh.1
                            refine lv_iinc (v := nI (c1 + 1)) (lv' := [(5, .int (nI (c1 + 1))), (0, .ref m0), (1, .int x), (2, .int n), (3, .int b), (4, .int (nI h)), (6, .int (bI cn)), (7, .int (nI (k + 1)))]) hx hb dX9_timesByAll_145 hl (k := 5) rfl (nI_up _) (by decide) rfl (fun ls hl => ?_)
                            refine lv_goto (tgt := 46) hx hb dX9_timesByAll_148 (by decide) ?_
                            exact ih_46 (c1 + 1) ((upd f (61 * h + c1) (bI (tbF (nB x) h c1)))) _ _ _ _ (by omega) (hup.nxt (by omega)) hh hkp hR htd (by omega) (lv_sub hl [1, 2, 3, 4, 5, 0] rfl)
                          · skip
                            have q7 : k + 1 ≤ h := (nI_leI (by omega) (by omega)).mp c_70
                            have hxm : nB x * (k + 1) ≤ 9 * 60 := Nat.mul_le_mul x9 (by omega)
                            refine lv_iload_n hx hb dX9_timesByAll_73 rfl (lv_at hl 1 rfl) ?_
                            refine lv_iload hx hb dX9_timesByAll_74 (lv_at hl 7 rfl) ?_
                            refine lv_imul hx hb dX9_timesByAll_76 ?_
                            refine tpi (x' := nI (nB x * (k + 1))) ((congrArg (· * nI (k + 1)) ex).trans (pk_mul _ _)) ?_
                            refine lv_bipush (v := 60) hx hb dX9_timesByAll_77 (by decide) ?_
                            refine bi_ge (tgt := 89) hx hb dX9_timesByAll_79 (by decide) (fun c_79 n_79 => ?_) (fun c_79 n_79 => ?_)
                            · skip
                              have q8 : 60 ≤ nB x * (k + 1) := (nI_leI (a := 60) (by decide) (by omega)).mp c_79
                              refine lv_bipush (v := 60) hx hb dX9_timesByAll_89 (by decide) ?_
                              refine tpi (x' := nI (min (nB x * (k + 1)) 60)) (by rw [Nat.min_eq_right q8]; rfl) ?_
                              refine lv_istore (lv' := [(8, .int (nI (min (nB x * (k + 1)) 60))), (0, .ref m0), (1, .int x), (2, .int n), (3, .int b), (4, .int (nI h)), (5, .int (nI c1)), (6, .int (bI cn)), (7, .int (nI (k + 1)))]) hx hb dX9_timesByAll_91 hl (by decide) rfl (fun ls hl => ?_)
                              refine lv_iload hx hb dX9_timesByAll_93 (lv_at hl 7 rfl) ?_
                              refine bz_ne (tgt := 117) hx hb dX9_timesByAll_95 (by decide) (fun c_95 n_95 => ?_) (fun c_95 n_95 => ?_)
                              · skip
                                have hcn0 := bI_ne0 c_95
                                refine lv_iconst (v := 1) hx hb dX9_timesByAll_117 (by decide) ?_
                                refine tpi (x' := bI true) (rfl) ?_
                                refine lv_goto (tgt := 122) hx hb dX9_timesByAll_118 (by decide) ?_
                                refine lv_istore (lv' := [(6, .int (bI true)), (8, .int (nI (min (nB x * (k + 1)) 60))), (0, .ref m0), (1, .int x), (2, .int n), (3, .int b), (4, .int (nI h)), (5, .int (nI c1)), (7, .int (nI (k + 1)))]) hx hb dX9_timesByAll_122 hl (by decide) rfl (fun ls hl => ?_)
                                refine lv_iinc (v := nI (k + 1 + 1)) (lv' := [(7, .int (nI (k + 1 + 1))), (6, .int (bI true)), (8, .int (nI (min (nB x * (k + 1)) 60))), (0, .ref m0), (1, .int x), (2, .int n), (3, .int b), (4, .int (nI h)), (5, .int (nI c1))]) hx hb dX9_timesByAll_124 hl (k := 8) rfl (nI_up _) (by decide) rfl (fun ls hl => ?_)
                                refine lv_goto (tgt := 59) hx hb dX9_timesByAll_127 (by decide) ?_
                                exact ih_59 (k + 1) true _ (by omega) (by show _ = (anB (stT (nB x) h) k || stT (nB x) h (k + 1)); rw [← hcn, hcn0]; rfl) (by omega) (lv_sub hl [3, 4, 5, 6, 7, 8, 1, 0] rfl)
                              · skip
                                have hcn0 := bI_eq0 c_95
                                refine lv_aload_n hx hb dX9_timesByAll_98 rfl (lv_at hl 1 rfl) ?_
                                refine m_get (ci := 9) (C := RX9) (T := TX9) (N := 18) (v := v 7) hx hb hts in_X9 hown hK hM hR rfl 7 (by decide) fl_29 (fun _ h => h) rfl dX9_timesByAll_99 ?_
                                refine tpv (hv7) ?_
                                refine lv_bipush (v := 61) hx hb dX9_timesByAll_102 (by decide) ?_
                                refine lv_iload hx hb dX9_timesByAll_104 (lv_at hl 5 rfl) ?_
                                refine lv_iload hx hb dX9_timesByAll_106 (lv_at hl 8 rfl) ?_
                                refine lv_isub hx hb dX9_timesByAll_108 ?_
                                refine tpi (x' := nI (h - (k + 1))) (nI_sub (by omega)) ?_
                                refine lv_imul hx hb dX9_timesByAll_109 ?_
                                refine tpi (x' := nI (61 * (h - (k + 1)))) (pk_mul 61 _) ?_
                                refine lv_iload hx hb dX9_timesByAll_110 (lv_at hl 0 rfl) ?_
                                refine lv_iadd hx hb dX9_timesByAll_112 ?_
                                refine tpi (x' := nI (61 * (h - (k + 1)) + min (nB x * (k + 1)) 60)) (nI_add _ _) ?_
                                refine m_zaldN (k := 61 * (h - (k + 1)) + min (nB x * (k + 1)) 60) hx hb hK hM htd (rfl) (by omega) (by decide) dX9_timesByAll_113 ?_
                                refine tpi (x' := bI (tbF (nB x) (h - (k + 1)) (min (nB x * (k + 1)) 60))) (hup _ _ (by omega) (by omega) (Or.inl (by omega))) ?_
                                refine bz_ne (tgt := 121) hx hb dX9_timesByAll_114 (by decide) (fun c_114 n_114 => ?_) (fun c_114 n_114 => ?_)
                                · skip
                                  have hls : stT (nB x) h (k + 1) = false := by unfold stT; rw [bI_ne0 c_114]; rfl
                                  refine lv_iconst (v := 0) hx hb dX9_timesByAll_121 (by decide) ?_
                                  refine tpi (x' := bI false) (rfl) ?_
                                  refine lv_istore (lv' := [(6, .int (bI false)), (8, .int (nI (min (nB x * (k + 1)) 60))), (0, .ref m0), (1, .int x), (2, .int n), (3, .int b), (4, .int (nI h)), (5, .int (nI c1)), (7, .int (nI (k + 1)))]) hx hb dX9_timesByAll_122 hl (by decide) rfl (fun ls hl => ?_)
                                  refine lv_iinc (v := nI (k + 1 + 1)) (lv' := [(7, .int (nI (k + 1 + 1))), (6, .int (bI false)), (8, .int (nI (min (nB x * (k + 1)) 60))), (0, .ref m0), (1, .int x), (2, .int n), (3, .int b), (4, .int (nI h)), (5, .int (nI c1))]) hx hb dX9_timesByAll_124 hl (k := 8) rfl (nI_up _) (by decide) rfl (fun ls hl => ?_)
                                  refine lv_goto (tgt := 59) hx hb dX9_timesByAll_127 (by decide) ?_
                                  exact ih_59 (k + 1) false _ (by omega) (by show _ = (anB (stT (nB x) h) k || stT (nB x) h (k + 1)); rw [← hcn, hcn0, hls]; rfl) (by omega) (lv_sub hl [3, 4, 5, 6, 7, 8, 1, 0] rfl)
                                · skip
                                  have hls : stT (nB x) h (k + 1) = true := by unfold stT; rw [bI_eq0 c_114]; rfl
                                  refine lv_iconst (v := 1) hx hb dX9_timesByAll_117 (by decide) ?_
                                  refine tpi (x' := bI true) (rfl) ?_
                                  refine lv_goto (tgt := 122) hx hb dX9_timesByAll_118 (by decide) ?_
                                  refine lv_istore (lv' := [(6, .int (bI true)), (8, .int (nI (min (nB x * (k + 1)) 60))), (0, .ref m0), (1, .int x), (2, .int n), (3, .int b), (4, .int (nI h)), (5, .int (nI c1)), (7, .int (nI (k + 1)))]) hx hb dX9_timesByAll_122 hl (by decide) rfl (fun ls hl => ?_)
                                  refine lv_iinc (v := nI (k + 1 + 1)) (lv' := [(7, .int (nI (k + 1 + 1))), (6, .int (bI true)), (8, .int (nI (min (nB x * (k + 1)) 60))), (0, .ref m0), (1, .int x), (2, .int n), (3, .int b), (4, .int (nI h)), (5, .int (nI c1))]) hx hb dX9_timesByAll_124 hl (k := 8) rfl (nI_up _) (by decide) rfl (fun ls hl => ?_)
                                  refine lv_goto (tgt := 59) hx hb dX9_timesByAll_127 (by decide) ?_
                                  exact ih_59 (k + 1) true _ (by omega) (by show _ = (anB (stT (nB x) h) k || stT (nB x) h (k + 1)); rw [hls, Bool.or_true]) (by omega) (lv_sub hl [3, 4, 5, 6, 7, 8, 1, 0] rfl)
                            · skip
                              have q8 : nB x * (k + 1) < 60 := (nI_ltI (b := 60) (by omega) (by decide)).mp c_79
                              refine lv_iload_n hx hb dX9_timesByAll_82 rfl (lv_at hl 1 rfl) ?_
                              refine lv_iload hx hb dX9_timesByAll_83 (lv_at hl 7 rfl) ?_
                              refine lv_imul hx hb dX9_timesByAll_85 ?_
                              refine tpi (x' := nI (min (nB x * (k + 1)) 60)) (((congrArg (· * nI (k + 1)) ex).trans (pk_mul _ _)).trans (by rw [Nat.min_eq_left (by omega)])) ?_
                              refine lv_goto (tgt := 91) hx hb dX9_timesByAll_86 (by decide) ?_
                              refine lv_istore (lv' := [(8, .int (nI (min (nB x * (k + 1)) 60))), (0, .ref m0), (1, .int x), (2, .int n), (3, .int b), (4, .int (nI h)), (5, .int (nI c1)), (6, .int (bI cn)), (7, .int (nI (k + 1)))]) hx hb dX9_timesByAll_91 hl (by decide) rfl (fun ls hl => ?_)
                              refine lv_iload hx hb dX9_timesByAll_93 (lv_at hl 7 rfl) ?_
                              refine bz_ne (tgt := 117) hx hb dX9_timesByAll_95 (by decide) (fun c_95 n_95 => ?_) (fun c_95 n_95 => ?_)
                              · skip
                                have hcn0 := bI_ne0 c_95
                                refine lv_iconst (v := 1) hx hb dX9_timesByAll_117 (by decide) ?_
                                refine tpi (x' := bI true) (rfl) ?_
                                refine lv_goto (tgt := 122) hx hb dX9_timesByAll_118 (by decide) ?_
                                refine lv_istore (lv' := [(6, .int (bI true)), (8, .int (nI (min (nB x * (k + 1)) 60))), (0, .ref m0), (1, .int x), (2, .int n), (3, .int b), (4, .int (nI h)), (5, .int (nI c1)), (7, .int (nI (k + 1)))]) hx hb dX9_timesByAll_122 hl (by decide) rfl (fun ls hl => ?_)
                                refine lv_iinc (v := nI (k + 1 + 1)) (lv' := [(7, .int (nI (k + 1 + 1))), (6, .int (bI true)), (8, .int (nI (min (nB x * (k + 1)) 60))), (0, .ref m0), (1, .int x), (2, .int n), (3, .int b), (4, .int (nI h)), (5, .int (nI c1))]) hx hb dX9_timesByAll_124 hl (k := 8) rfl (nI_up _) (by decide) rfl (fun ls hl => ?_)
                                refine lv_goto (tgt := 59) hx hb dX9_timesByAll_127 (by decide) ?_
                                exact ih_59 (k + 1) true _ (by omega) (by show _ = (anB (stT (nB x) h) k || stT (nB x) h (k + 1)); rw [← hcn, hcn0]; rfl) (by omega) (lv_sub hl [3, 4, 5, 6, 7, 8, 1, 0] rfl)
                              · skip
                                have hcn0 := bI_eq0 c_95
                                refine lv_aload_n hx hb dX9_timesByAll_98 rfl (lv_at hl 1 rfl) ?_
                                refine m_get (ci := 9) (C := RX9) (T := TX9) (N := 18) (v := v 7) hx hb hts in_X9 hown hK hM hR rfl 7 (by decide) fl_29 (fun _ h => h) rfl dX9_timesByAll_99 ?_
                                refine tpv (hv7) ?_
                                refine lv_bipush (v := 61) hx hb dX9_timesByAll_102 (by decide) ?_
                                refine lv_iload hx hb dX9_timesByAll_104 (lv_at hl 5 rfl) ?_
                                refine lv_iload hx hb dX9_timesByAll_106 (lv_at hl 8 rfl) ?_
                                refine lv_isub hx hb dX9_timesByAll_108 ?_
                                refine tpi (x' := nI (h - (k + 1))) (nI_sub (by omega)) ?_
                                refine lv_imul hx hb dX9_timesByAll_109 ?_
                                refine tpi (x' := nI (61 * (h - (k + 1)))) (pk_mul 61 _) ?_
                                refine lv_iload hx hb dX9_timesByAll_110 (lv_at hl 0 rfl) ?_
                                refine lv_iadd hx hb dX9_timesByAll_112 ?_
                                refine tpi (x' := nI (61 * (h - (k + 1)) + min (nB x * (k + 1)) 60)) (nI_add _ _) ?_
                                refine m_zaldN (k := 61 * (h - (k + 1)) + min (nB x * (k + 1)) 60) hx hb hK hM htd (rfl) (by omega) (by decide) dX9_timesByAll_113 ?_
                                refine tpi (x' := bI (tbF (nB x) (h - (k + 1)) (min (nB x * (k + 1)) 60))) (hup _ _ (by omega) (by omega) (Or.inl (by omega))) ?_
                                refine bz_ne (tgt := 121) hx hb dX9_timesByAll_114 (by decide) (fun c_114 n_114 => ?_) (fun c_114 n_114 => ?_)
                                · skip
                                  have hls : stT (nB x) h (k + 1) = false := by unfold stT; rw [bI_ne0 c_114]; rfl
                                  refine lv_iconst (v := 0) hx hb dX9_timesByAll_121 (by decide) ?_
                                  refine tpi (x' := bI false) (rfl) ?_
                                  refine lv_istore (lv' := [(6, .int (bI false)), (8, .int (nI (min (nB x * (k + 1)) 60))), (0, .ref m0), (1, .int x), (2, .int n), (3, .int b), (4, .int (nI h)), (5, .int (nI c1)), (7, .int (nI (k + 1)))]) hx hb dX9_timesByAll_122 hl (by decide) rfl (fun ls hl => ?_)
                                  refine lv_iinc (v := nI (k + 1 + 1)) (lv' := [(7, .int (nI (k + 1 + 1))), (6, .int (bI false)), (8, .int (nI (min (nB x * (k + 1)) 60))), (0, .ref m0), (1, .int x), (2, .int n), (3, .int b), (4, .int (nI h)), (5, .int (nI c1))]) hx hb dX9_timesByAll_124 hl (k := 8) rfl (nI_up _) (by decide) rfl (fun ls hl => ?_)
                                  refine lv_goto (tgt := 59) hx hb dX9_timesByAll_127 (by decide) ?_
                                  exact ih_59 (k + 1) false _ (by omega) (by show _ = (anB (stT (nB x) h) k || stT (nB x) h (k + 1)); rw [← hcn, hcn0, hls]; rfl) (by omega) (lv_sub hl [3, 4, 5, 6, 7, 8, 1, 0] rfl)
                                · skip
                                  have hls : stT (nB x) h (k + 1) = true := by unfold stT; rw [bI_eq0 c_114]; rfl
                                  refine lv_iconst (v := 1) hx hb dX9_timesByAll_117 (by decide) ?_
                                  refine tpi (x' := bI true) (rfl) ?_
                                  refine lv_goto (tgt := 122) hx hb dX9_timesByAll_118 (by decide) ?_
                                  refine lv_istore (lv' := [(6, .int (bI true)), (8, .int (nI (min (nB x * (k + 1)) 60))), (0, .ref m0), (1, .int x), (2, .int n), (3, .int b), (4, .int (nI h)), (5, .int (nI c1)), (7, .int (nI (k + 1)))]) hx hb dX9_timesByAll_122 hl (by decide) rfl (fun ls hl => ?_)
                                  refine lv_iinc (v := nI (k + 1 + 1)) (lv' := [(7, .int (nI (k + 1 + 1))), (6, .int (bI true)), (8, .int (nI (min (nB x * (k + 1)) 60))), (0, .ref m0), (1, .int x), (2, .int n), (3, .int b), (4, .int (nI h)), (5, .int (nI c1))]) hx hb dX9_timesByAll_124 hl (k := 8) rfl (nI_up _) (by decide) rfl (fun ls hl => ?_)
                                  refine lv_goto (tgt := 59) hx hb dX9_timesByAll_127 (by decide) ?_
                                  exact ih_59 (k + 1) true _ (by omega) (by show _ = (anB (stT (nB x) h) k || stT (nB x) h (k + 1)); rw [hls, Bool.or_true]) (by omega) (lv_sub hl [3, 4, 5, 6, 7, 8, 1, 0] rfl)
                    exact j_59 (min c1 h + 1) 0 false _ (Nat.zero_le _) rfl (by omega) (lv_sub hl [2, 3, 4, 5, 6, 7, 1, 0] rfl)
              exact j_46 (62) 0 f _ _ _ _ (by omega) hup hh hkp hR htd (by omega) (lv_sub hl [1, 2, 3, 4, 5, 0] rfl)
        exact j_37 (63) 0 fd _ _ _ _ (by omega) (fun h1 c1 _ _ q => by omega) hh hkp hR htd (by omega) (lv_sub hl [1, 2, 3, 4, 0] rfl)
      · skip
        have h3 := bI_eq0 c_28
        refine lv_bipush (v := (-2)) hx hb dX9_timesByAll_31 (by decide) ?_
        exact hreti _ _ _ _ _ _ _ _ hh (⟨by simp [tbV, h1, h2, h3], ⟨_, htd⟩, hkp⟩) (by decide) (by decide) dX9_timesByAll_33 rfl
