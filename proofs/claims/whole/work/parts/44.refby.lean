set_option maxHeartbeats 1000000 in
set_option maxRecDepth 100000 in
theorem k_X9_threeAt (l : Launch) (D : va_G) (cA : Nat → ClassId) (M : mp) (m0 : Nat) (v : Nat → Value) (th it : Nat) (ft fi : Nat → Int32) (mi : Bool) (a b c0 : Nat)  (hR : M m0 = some (.inr (9, rL v))) (hv5 : v 5 = .ref th) (hv6 : v 6 = .ref it) (hth : M th = some (.inl (cA 2, 2662, .inl ft))) (ha : a ≤ 10) (hb0 : b ≤ 10) (hc0 : c0 ≤ 10) (hit : M it = some (.inl (cA 2, 2, .inl fi))) (hT3 : t3W ft fi)  : MC l D cA yX9_threeAt wsX9_threeAt 1 28 0 0 [.ref m0, .int (bI mi), .int (nI a), .int (nI b), .int (nI c0)] M (fun r M' => r = some (.int (bI (!ls3 mi a b c0))) ∧ (∃ ft' fi', M' th = some (.inl (cA 2, 2662, .inl ft')) ∧ M' it = some (.inl (cA 2, 2, .inl fi')) ∧ t3W ft' fi') ∧ kpL M M' [th, it]) := by
  refine MC.of (cc := cX9_threeAt) (maxL := 7) (ret := (some .boolean)) (by decide) rfl (Nat.le_of_ble_eq_true rfl) ?_
  intro p e s m args below meth c Q ls B hh hl hretv hreti hretz hretl hreta
  obtain ⟨hx, hb, hown, hts, hml, hK, hin⟩ := B
  have hM := hh.1
  have hM_0 := hh.1
  have hkp : kpL M M [th, it] := kpL.rf M _
  have hown : s.vm.findClass RX9 = some m.cls := hown
  have hl : lv_has ls 7 [(0, .ref m0), (1, .int (bI mi)), (2, .int (nI a)), (3, .int (nI b)), (4, .int (nI c0))] := hl
  have in_X9 : ∀ w ∈ wsX90, w ∈ wsX9_threeAt := by decide +kernel
  have fl_26 := hts (.fieldLink RX9 26 "GoldHeapsModel" "isThree" "[Z") (by decide +kernel)
  have fl_23 := hts (.fieldLink RX9 23 "GoldHeapsModel" "three" "[Z") (by decide +kernel)
  have hbn : bN mi ≤ 1 := by cases mi <;> decide
  have hn3 : n3 a b c0 = 121 * a + 11 * b + c0 := rfl
  refine lv_iload_n hx hb dX9_threeAt_0 rfl (lv_at hl 1 rfl) ?_
  refine bz_eq (tgt := 8) hx hb dX9_threeAt_1 (by decide) (fun c_1 n_1 => ?_) (fun c_1 n_1 => ?_)
  · skip
    have qm := bI_eq0 c_1
    refine lv_iconst (v := 0) hx hb dX9_threeAt_8 (by decide) ?_
    refine tpi (x' := nI (bN mi)) (by rw [qm]; rfl) ?_
    refine lv_istore (lv' := [(5, .int (nI (bN mi))), (0, .ref m0), (1, .int (bI mi)), (2, .int (nI a)), (3, .int (nI b)), (4, .int (nI c0))]) hx hb dX9_threeAt_9 hl (by decide) rfl (fun ls hl => ?_)
    refine lv_aload_n hx hb dX9_threeAt_11 rfl (lv_at hl 1 rfl) ?_
    refine m_get (ci := 9) (C := RX9) (T := TX9) (N := 18) (v := v 6) hx hb hts in_X9 hown hK hM hR rfl 6 (by decide) fl_26 (fun _ h => h) rfl dX9_threeAt_12 ?_
    refine tpv (hv6) ?_
    refine lv_iload hx hb dX9_threeAt_15 (lv_at hl 0 rfl) ?_
    refine m_zaldN (k := bN mi) hx hb hK hM hit (rfl) (by omega) (by decide) dX9_threeAt_17 ?_
    refine bz_ne (tgt := 85) hx hb dX9_threeAt_18 (by decide) (fun c_18 n_18 => ?_) (fun c_18 n_18 => ?_)
    · skip
      have hdone := hT3 mi c_18
      have hval : ft (1331 * bN mi + n3 a b c0) = bI (!ls3 mi a b c0) := hdone _ (by omega)
      refine lv_aload_n hx hb dX9_threeAt_85 rfl (lv_at hl 1 rfl) ?_
      refine m_get (ci := 9) (C := RX9) (T := TX9) (N := 18) (v := v 5) hx hb hts in_X9 hown hK hM hR rfl 5 (by decide) fl_23 (fun _ h => h) rfl dX9_threeAt_86 ?_
      refine tpv (hv5) ?_
      refine lv_sipush (v := 1331) hx hb dX9_threeAt_89 (by decide) ?_
      refine lv_iload hx hb dX9_threeAt_92 (lv_at hl 0 rfl) ?_
      refine lv_imul hx hb dX9_threeAt_94 ?_
      refine tpi (x' := nI (1331 * bN mi)) (pk_mul 1331 _) ?_
      refine lv_bipush (v := 121) hx hb dX9_threeAt_95 (by decide) ?_
      refine lv_iload_n hx hb dX9_threeAt_97 rfl (lv_at hl 3 rfl) ?_
      refine lv_imul hx hb dX9_threeAt_98 ?_
      refine tpi (x' := nI (121 * a)) (pk_mul 121 _) ?_
      refine lv_iadd hx hb dX9_threeAt_99 ?_
      refine tpi (x' := nI (1331 * bN mi + 121 * a)) (nI_add _ _) ?_
      refine lv_bipush (v := 11) hx hb dX9_threeAt_100 (by decide) ?_
      refine lv_iload_n hx hb dX9_threeAt_102 rfl (lv_at hl 4 rfl) ?_
      refine lv_imul hx hb dX9_threeAt_103 ?_
      refine tpi (x' := nI (11 * b)) (pk_mul 11 _) ?_
      refine lv_iadd hx hb dX9_threeAt_104 ?_
      refine tpi (x' := nI (1331 * bN mi + 121 * a + 11 * b)) (nI_add _ _) ?_
      refine lv_iload hx hb dX9_threeAt_105 (lv_at hl 5 rfl) ?_
      refine lv_iadd hx hb dX9_threeAt_107 ?_
      refine tpi (x' := nI (1331 * bN mi + n3 a b c0)) (by rw [nI_add]; congr 1; omega) ?_
      refine m_zaldN (k := 1331 * bN mi + n3 a b c0) hx hb hK hM hth (rfl) (by omega) (by decide) dX9_threeAt_108 ?_
      refine tpi (x' := bI (!ls3 mi a b c0)) (hval) ?_
      exact hretz _ _ _ _ _ _ _ _ (!ls3 mi a b c0) hh (rfl) (⟨rfl, ⟨_, _, hth, hit, hT3⟩, hkp⟩) (by decide) (by decide) dX9_threeAt_109 rfl
    · skip
      refine lv_aload_n hx hb dX9_threeAt_21 rfl (lv_at hl 1 rfl) ?_
      refine m_get (ci := 9) (C := RX9) (T := TX9) (N := 18) (v := v 6) hx hb hts in_X9 hown hK hM hR rfl 6 (by decide) fl_26 (fun _ h => h) rfl dX9_threeAt_22 ?_
      refine tpv (hv6) ?_
      refine lv_iload hx hb dX9_threeAt_25 (lv_at hl 0 rfl) ?_
      refine lv_iconst (v := 1) hx hb dX9_threeAt_27 (by decide) ?_
      refine m_zastN (k := bN mi) hx hb hK hh hit (Or.inr rfl) (rfl) (by omega) (by decide) dX9_threeAt_28 (fun M1 H1 locs1 e1 hh => ?_)
      have hR := mu_kp e1 (mp_ne hR hit (by simp)) hR
      have hth := mu_kp e1 (mp_ne hth hit (by simp)) hth
      have hit := mu_at e1
      have hkp := hkp.put e1 (by simp)
      have hit : M1 it = some (.inl (cA 2, 2, .inl (upd fi (bN mi) 1))) := hit
      have hM := hh.1
      refine lv_iconst (v := 0) hx hb dX9_threeAt_29 (by decide) ?_
      refine tpi (x' := nI 0) (rfl) ?_
      refine lv_istore (lv' := [(6, .int (nI 0)), (5, .int (nI (bN mi))), (0, .ref m0), (1, .int (bI mi)), (2, .int (nI a)), (3, .int (nI b)), (4, .int (nI c0))]) hx hb dX9_threeAt_30 hl (by decide) rfl (fun ls hl => ?_)
      have j_32 : ∀ (fu : Nat) (k : Nat) (f : Nat → Int32) (M1 : mp) (H : Heap) (locs : List Loc) (ls : Array Slot), (k ≤ 1331) → (up3 mi (bN mi) k f) → (∀ i, i < 1331 * bN mi ∨ 1331 * bN mi + 1331 ≤ i → f i = ft i) → (hw D M s.heap M1 H locs) → (kpL M M1 [th, it]) → (M1 m0 = some (.inr (9, rL v))) → (M1 th = some (.inl (cA 2, 2662, .inl f))) → (M1 it = some (.inl (cA 2, 2, .inl (upd fi (bN mi) 1)))) → (1331 - k < fu) → lv_has ls 7 [(0, .ref m0), (1, .int (bI mi)), (2, .int (nI a)), (3, .int (nI b)), (4, .int (nI c0)), (5, .int (nI (bN mi))), (6, .int (nI k))] → W p l e ({ frames := 1, cells := 0, slots := 0, locals := 28 } : Room) s m args below meth c H locs 0 0 Q (F0 m 32 ls []) := by
        intro fu
        induction fu with
        | zero => intro k f M1 H locs ls hk hup hot hh hkp hR hth hit hm_32 _; exact absurd hm_32 (Nat.not_lt_zero _)
        | succ fu ih_32 =>
          intro k f M1 H locs ls hk hup hot hh hkp hR hth hit hm_32 hl
          have hM := hh.1
          refine lv_iload hx hb dX9_threeAt_32 (lv_at hl 6 rfl) ?_
          refine lv_sipush (v := 1331) hx hb dX9_threeAt_34 (by decide) ?_
          refine bi_ge (tgt := 85) hx hb dX9_threeAt_37 (by decide) (fun c_37 n_37 => ?_) (fun c_37 n_37 => ?_)
          · skip
            have h6 : 1331 ≤ k := (nI_leI (a := 1331) (by decide) (by omega)).mp c_37
            have hval : f (1331 * bN mi + n3 a b c0) = bI (!ls3 mi a b c0) := hup _ (by omega) (by omega)
            refine lv_aload_n hx hb dX9_threeAt_85 rfl (lv_at hl 0 rfl) ?_
            refine m_get (ci := 9) (C := RX9) (T := TX9) (N := 18) (v := v 5) hx hb hts in_X9 hown hK hM hR rfl 5 (by decide) fl_23 (fun _ h => h) rfl dX9_threeAt_86 ?_
            refine tpv (hv5) ?_
            refine lv_sipush (v := 1331) hx hb dX9_threeAt_89 (by decide) ?_
            refine lv_iload hx hb dX9_threeAt_92 (lv_at hl 5 rfl) ?_
            refine lv_imul hx hb dX9_threeAt_94 ?_
            refine tpi (x' := nI (1331 * bN mi)) (pk_mul 1331 _) ?_
            refine lv_bipush (v := 121) hx hb dX9_threeAt_95 (by decide) ?_
            refine lv_iload_n hx hb dX9_threeAt_97 rfl (lv_at hl 2 rfl) ?_
            refine lv_imul hx hb dX9_threeAt_98 ?_
            refine tpi (x' := nI (121 * a)) (pk_mul 121 _) ?_
            refine lv_iadd hx hb dX9_threeAt_99 ?_
            refine tpi (x' := nI (1331 * bN mi + 121 * a)) (nI_add _ _) ?_
            refine lv_bipush (v := 11) hx hb dX9_threeAt_100 (by decide) ?_
            refine lv_iload_n hx hb dX9_threeAt_102 rfl (lv_at hl 3 rfl) ?_
            refine lv_imul hx hb dX9_threeAt_103 ?_
            refine tpi (x' := nI (11 * b)) (pk_mul 11 _) ?_
            refine lv_iadd hx hb dX9_threeAt_104 ?_
            refine tpi (x' := nI (1331 * bN mi + 121 * a + 11 * b)) (nI_add _ _) ?_
            refine lv_iload hx hb dX9_threeAt_105 (lv_at hl 4 rfl) ?_
            refine lv_iadd hx hb dX9_threeAt_107 ?_
            refine tpi (x' := nI (1331 * bN mi + n3 a b c0)) (by rw [nI_add]; congr 1; omega) ?_
            refine m_zaldN (k := 1331 * bN mi + n3 a b c0) hx hb hK hM hth (rfl) (by omega) (by decide) dX9_threeAt_108 ?_
            refine tpi (x' := bI (!ls3 mi a b c0)) (hval) ?_
            exact hretz _ _ _ _ _ _ _ _ (!ls3 mi a b c0) hh (rfl) (⟨rfl, ⟨_, _, hth, hit, hT3.done (fun j hj => hup j (by omega) hj) hot⟩, hkp⟩) (by decide) (by decide) dX9_threeAt_109 rfl
          · skip
            have h6 : k < 1331 := (nI_ltI (b := 1331) (by omega) (by decide)).mp c_37
            have e3 : n3 (k / 121) (k / 11 % 11) (k % 11) = k := by unfold n3; omega
            refine lv_aload_n hx hb dX9_threeAt_40 rfl (lv_at hl 0 rfl) ?_
            refine m_get (ci := 9) (C := RX9) (T := TX9) (N := 18) (v := v 5) hx hb hts in_X9 hown hK hM hR rfl 5 (by decide) fl_23 (fun _ h => h) rfl dX9_threeAt_41 ?_
            refine tpv (hv5) ?_
            refine lv_sipush (v := 1331) hx hb dX9_threeAt_44 (by decide) ?_
            refine lv_iload hx hb dX9_threeAt_47 (lv_at hl 5 rfl) ?_
            refine lv_imul hx hb dX9_threeAt_49 ?_
            refine tpi (x' := nI (1331 * bN mi)) (pk_mul 1331 _) ?_
            refine lv_iload hx hb dX9_threeAt_50 (lv_at hl 6 rfl) ?_
            refine lv_iadd hx hb dX9_threeAt_52 ?_
            refine tpi (x' := nI (1331 * bN mi + k)) (nI_add _ _) ?_
            refine lv_aload_n hx hb dX9_threeAt_53 rfl (lv_at hl 0 rfl) ?_
            refine lv_iload hx hb dX9_threeAt_54 (lv_at hl 5 rfl) ?_
            refine lv_iload_n hx hb dX9_threeAt_56 rfl (lv_at hl 1 rfl) ?_
            refine lv_iload hx hb dX9_threeAt_57 (lv_at hl 6 rfl) ?_
            refine lv_bipush (v := 121) hx hb dX9_threeAt_59 (by decide) ?_
            refine lv_idiv hx hb dX9_threeAt_61 (by decide) ?_
            refine tpi (x' := nI (k / 121)) (pk_div (d := 121) (by omega) (by decide) (by decide)) ?_
            refine lv_iload hx hb dX9_threeAt_62 (lv_at hl 6 rfl) ?_
            refine lv_bipush (v := 11) hx hb dX9_threeAt_64 (by decide) ?_
            refine lv_idiv hx hb dX9_threeAt_66 (by decide) ?_
            refine tpi (x' := nI (k / 11)) (pk_div (d := 11) (by omega) (by decide) (by decide)) ?_
            refine lv_bipush (v := 11) hx hb dX9_threeAt_67 (by decide) ?_
            refine lv_irem hx hb dX9_threeAt_69 (by decide) ?_
            refine tpi (x' := nI (k / 11 % 11)) (pk_rem (d := 11) (by omega) (by decide) (by decide)) ?_
            refine lv_iload hx hb dX9_threeAt_70 (lv_at hl 6 rfl) ?_
            refine lv_bipush (v := 11) hx hb dX9_threeAt_72 (by decide) ?_
            refine lv_irem hx hb dX9_threeAt_74 (by decide) ?_
            refine tpi (x' := nI (k % 11)) (pk_rem (d := 11) (by omega) (by decide) (by decide)) ?_
            refine cpV (As := [.int (nI (bN mi)), .int (bI mi), .int (nI (k / 121)), .int (nI (k / 11 % 11)), .int (nI (k % 11))]) (rest := [.int (nI (1331 * bN mi + k)), .ref th]) (k_X9_goThree l D cA _ m0 v th it f mi (k / 121) (k / 11 % 11) (k % 11) hR hv5 hv6 hth (by omega) (by omega) (by omega) (by rw [e3]; exact hup)) ⟨hx, hb, hml, hown, hts⟩ (cwV 5 hts gX9_threeAt_X9_goThree rfl rfl rfl (by decide +kernel) ⟨by decide, by decide⟩) hK hM hR rfl rfl hl.1 rfl (Nat.le_of_ble_eq_true rfl) dX9_threeAt_75 ⟨by decide, by decide⟩ ?_
            refine tpi (x' := bI (!l3 mi k)) (by rw [e3]) ?_
            refine m_zastN (k := 1331 * bN mi + k) hx hb hK hh hth (bI_01 _) (rfl) (by omega) (by decide) dX9_threeAt_78 (fun M1 H1 locs1 e1 hh => ?_)
            have hR := mu_kp e1 (mp_ne hR hth (by simp)) hR
            have hit := mu_kp e1 (mp_ne hit hth (by simp)) hit
            have hth := mu_at e1
            have hkp := hkp.put e1 (by simp)
            have hth : M1 th = some (.inl (cA 2, 2662, .inl (upd f (1331 * bN mi + k) (bI (!l3 mi k))))) := hth
            have hM := hh.1
            refine lv_iinc (v := nI (k + 1)) (lv' := [(6, .int (nI (k + 1))), (0, .ref m0), (1, .int (bI mi)), (2, .int (nI a)), (3, .int (nI b)), (4, .int (nI c0)), (5, .int (nI (bN mi)))]) hx hb dX9_threeAt_79 hl (k := 6) rfl (nI_up k) (by decide) rfl (fun ls hl => ?_)
            refine lv_goto (tgt := 32) hx hb dX9_threeAt_82 (by decide) ?_
            exact ih_32 (k + 1) ((upd f (1331 * bN mi + k) (bI (!l3 mi k)))) _ _ _ _ (by omega) hup.nxt (fun i hi => by rw [pk_un (by omega)]; exact hot i hi) hh hkp hR hth hit (by omega) (lv_sub hl [1, 2, 3, 4, 5, 6, 0] rfl)
      exact j_32 (1332) 0 ft _ _ _ _ (by omega) (fun j hj _ => absurd hj (Nat.not_lt_zero _)) (fun _ _ => rfl) hh hkp hR hth hit (by omega) (lv_sub hl [2, 3, 4, 5, 6, 1, 0] rfl)
  · skip
    have qm := bI_ne0 c_1
    refine lv_iconst (v := 1) hx hb dX9_threeAt_4 (by decide) ?_
    refine tpi (x' := nI (bN mi)) (by rw [qm]; rfl) ?_
    refine lv_goto (tgt := 9) hx hb dX9_threeAt_5 (by decide) ?_
    refine lv_istore (lv' := [(5, .int (nI (bN mi))), (0, .ref m0), (1, .int (bI mi)), (2, .int (nI a)), (3, .int (nI b)), (4, .int (nI c0))]) hx hb dX9_threeAt_9 hl (by decide) rfl (fun ls hl => ?_)
    refine lv_aload_n hx hb dX9_threeAt_11 rfl (lv_at hl 1 rfl) ?_
    refine m_get (ci := 9) (C := RX9) (T := TX9) (N := 18) (v := v 6) hx hb hts in_X9 hown hK hM hR rfl 6 (by decide) fl_26 (fun _ h => h) rfl dX9_threeAt_12 ?_
    refine tpv (hv6) ?_
    refine lv_iload hx hb dX9_threeAt_15 (lv_at hl 0 rfl) ?_
    refine m_zaldN (k := bN mi) hx hb hK hM hit (rfl) (by omega) (by decide) dX9_threeAt_17 ?_
    refine bz_ne (tgt := 85) hx hb dX9_threeAt_18 (by decide) (fun c_18 n_18 => ?_) (fun c_18 n_18 => ?_)
    · skip
      have hdone := hT3 mi c_18
      have hval : ft (1331 * bN mi + n3 a b c0) = bI (!ls3 mi a b c0) := hdone _ (by omega)
      refine lv_aload_n hx hb dX9_threeAt_85 rfl (lv_at hl 1 rfl) ?_
      refine m_get (ci := 9) (C := RX9) (T := TX9) (N := 18) (v := v 5) hx hb hts in_X9 hown hK hM hR rfl 5 (by decide) fl_23 (fun _ h => h) rfl dX9_threeAt_86 ?_
      refine tpv (hv5) ?_
      refine lv_sipush (v := 1331) hx hb dX9_threeAt_89 (by decide) ?_
      refine lv_iload hx hb dX9_threeAt_92 (lv_at hl 0 rfl) ?_
      refine lv_imul hx hb dX9_threeAt_94 ?_
      refine tpi (x' := nI (1331 * bN mi)) (pk_mul 1331 _) ?_
      refine lv_bipush (v := 121) hx hb dX9_threeAt_95 (by decide) ?_
      refine lv_iload_n hx hb dX9_threeAt_97 rfl (lv_at hl 3 rfl) ?_
      refine lv_imul hx hb dX9_threeAt_98 ?_
      refine tpi (x' := nI (121 * a)) (pk_mul 121 _) ?_
      refine lv_iadd hx hb dX9_threeAt_99 ?_
      refine tpi (x' := nI (1331 * bN mi + 121 * a)) (nI_add _ _) ?_
      refine lv_bipush (v := 11) hx hb dX9_threeAt_100 (by decide) ?_
      refine lv_iload_n hx hb dX9_threeAt_102 rfl (lv_at hl 4 rfl) ?_
      refine lv_imul hx hb dX9_threeAt_103 ?_
      refine tpi (x' := nI (11 * b)) (pk_mul 11 _) ?_
      refine lv_iadd hx hb dX9_threeAt_104 ?_
      refine tpi (x' := nI (1331 * bN mi + 121 * a + 11 * b)) (nI_add _ _) ?_
      refine lv_iload hx hb dX9_threeAt_105 (lv_at hl 5 rfl) ?_
      refine lv_iadd hx hb dX9_threeAt_107 ?_
      refine tpi (x' := nI (1331 * bN mi + n3 a b c0)) (by rw [nI_add]; congr 1; omega) ?_
      refine m_zaldN (k := 1331 * bN mi + n3 a b c0) hx hb hK hM hth (rfl) (by omega) (by decide) dX9_threeAt_108 ?_
      refine tpi (x' := bI (!ls3 mi a b c0)) (hval) ?_
      exact hretz _ _ _ _ _ _ _ _ (!ls3 mi a b c0) hh (rfl) (⟨rfl, ⟨_, _, hth, hit, hT3⟩, hkp⟩) (by decide) (by decide) dX9_threeAt_109 rfl
    · skip
      refine lv_aload_n hx hb dX9_threeAt_21 rfl (lv_at hl 1 rfl) ?_
      refine m_get (ci := 9) (C := RX9) (T := TX9) (N := 18) (v := v 6) hx hb hts in_X9 hown hK hM hR rfl 6 (by decide) fl_26 (fun _ h => h) rfl dX9_threeAt_22 ?_
      refine tpv (hv6) ?_
      refine lv_iload hx hb dX9_threeAt_25 (lv_at hl 0 rfl) ?_
      refine lv_iconst (v := 1) hx hb dX9_threeAt_27 (by decide) ?_
      refine m_zastN (k := bN mi) hx hb hK hh hit (Or.inr rfl) (rfl) (by omega) (by decide) dX9_threeAt_28 (fun M1 H1 locs1 e1 hh => ?_)
      have hR := mu_kp e1 (mp_ne hR hit (by simp)) hR
      have hth := mu_kp e1 (mp_ne hth hit (by simp)) hth
      have hit := mu_at e1
      have hkp := hkp.put e1 (by simp)
      have hit : M1 it = some (.inl (cA 2, 2, .inl (upd fi (bN mi) 1))) := hit
      have hM := hh.1
      refine lv_iconst (v := 0) hx hb dX9_threeAt_29 (by decide) ?_
      refine tpi (x' := nI 0) (rfl) ?_
      refine lv_istore (lv' := [(6, .int (nI 0)), (5, .int (nI (bN mi))), (0, .ref m0), (1, .int (bI mi)), (2, .int (nI a)), (3, .int (nI b)), (4, .int (nI c0))]) hx hb dX9_threeAt_30 hl (by decide) rfl (fun ls hl => ?_)
      have j_32 : ∀ (fu : Nat) (k : Nat) (f : Nat → Int32) (M1 : mp) (H : Heap) (locs : List Loc) (ls : Array Slot), (k ≤ 1331) → (up3 mi (bN mi) k f) → (∀ i, i < 1331 * bN mi ∨ 1331 * bN mi + 1331 ≤ i → f i = ft i) → (hw D M s.heap M1 H locs) → (kpL M M1 [th, it]) → (M1 m0 = some (.inr (9, rL v))) → (M1 th = some (.inl (cA 2, 2662, .inl f))) → (M1 it = some (.inl (cA 2, 2, .inl (upd fi (bN mi) 1)))) → (1331 - k < fu) → lv_has ls 7 [(0, .ref m0), (1, .int (bI mi)), (2, .int (nI a)), (3, .int (nI b)), (4, .int (nI c0)), (5, .int (nI (bN mi))), (6, .int (nI k))] → W p l e ({ frames := 1, cells := 0, slots := 0, locals := 28 } : Room) s m args below meth c H locs 0 0 Q (F0 m 32 ls []) := by
        intro fu
        induction fu with
        | zero => intro k f M1 H locs ls hk hup hot hh hkp hR hth hit hm_32 _; exact absurd hm_32 (Nat.not_lt_zero _)
        | succ fu ih_32 =>
          intro k f M1 H locs ls hk hup hot hh hkp hR hth hit hm_32 hl
          have hM := hh.1
          refine lv_iload hx hb dX9_threeAt_32 (lv_at hl 6 rfl) ?_
          refine lv_sipush (v := 1331) hx hb dX9_threeAt_34 (by decide) ?_
          refine bi_ge (tgt := 85) hx hb dX9_threeAt_37 (by decide) (fun c_37 n_37 => ?_) (fun c_37 n_37 => ?_)
          · skip
            have h6 : 1331 ≤ k := (nI_leI (a := 1331) (by decide) (by omega)).mp c_37
            have hval : f (1331 * bN mi + n3 a b c0) = bI (!ls3 mi a b c0) := hup _ (by omega) (by omega)
            refine lv_aload_n hx hb dX9_threeAt_85 rfl (lv_at hl 0 rfl) ?_
            refine m_get (ci := 9) (C := RX9) (T := TX9) (N := 18) (v := v 5) hx hb hts in_X9 hown hK hM hR rfl 5 (by decide) fl_23 (fun _ h => h) rfl dX9_threeAt_86 ?_
            refine tpv (hv5) ?_
            refine lv_sipush (v := 1331) hx hb dX9_threeAt_89 (by decide) ?_
            refine lv_iload hx hb dX9_threeAt_92 (lv_at hl 5 rfl) ?_
            refine lv_imul hx hb dX9_threeAt_94 ?_
            refine tpi (x' := nI (1331 * bN mi)) (pk_mul 1331 _) ?_
            refine lv_bipush (v := 121) hx hb dX9_threeAt_95 (by decide) ?_
            refine lv_iload_n hx hb dX9_threeAt_97 rfl (lv_at hl 2 rfl) ?_
            refine lv_imul hx hb dX9_threeAt_98 ?_
            refine tpi (x' := nI (121 * a)) (pk_mul 121 _) ?_
            refine lv_iadd hx hb dX9_threeAt_99 ?_
            refine tpi (x' := nI (1331 * bN mi + 121 * a)) (nI_add _ _) ?_
            refine lv_bipush (v := 11) hx hb dX9_threeAt_100 (by decide) ?_
            refine lv_iload_n hx hb dX9_threeAt_102 rfl (lv_at hl 3 rfl) ?_
            refine lv_imul hx hb dX9_threeAt_103 ?_
            refine tpi (x' := nI (11 * b)) (pk_mul 11 _) ?_
            refine lv_iadd hx hb dX9_threeAt_104 ?_
            refine tpi (x' := nI (1331 * bN mi + 121 * a + 11 * b)) (nI_add _ _) ?_
            refine lv_iload hx hb dX9_threeAt_105 (lv_at hl 4 rfl) ?_
            refine lv_iadd hx hb dX9_threeAt_107 ?_
            refine tpi (x' := nI (1331 * bN mi + n3 a b c0)) (by rw [nI_add]; congr 1; omega) ?_
            refine m_zaldN (k := 1331 * bN mi + n3 a b c0) hx hb hK hM hth (rfl) (by omega) (by decide) dX9_threeAt_108 ?_
            refine tpi (x' := bI (!ls3 mi a b c0)) (hval) ?_
            exact hretz _ _ _ _ _ _ _ _ (!ls3 mi a b c0) hh (rfl) (⟨rfl, ⟨_, _, hth, hit, hT3.done (fun j hj => hup j (by omega) hj) hot⟩, hkp⟩) (by decide) (by decide) dX9_threeAt_109 rfl
          · skip
            have h6 : k < 1331 := (nI_ltI (b := 1331) (by omega) (by decide)).mp c_37
            have e3 : n3 (k / 121) (k / 11 % 11) (k % 11) = k := by unfold n3; omega
            refine lv_aload_n hx hb dX9_threeAt_40 rfl (lv_at hl 0 rfl) ?_
            refine m_get (ci := 9) (C := RX9) (T := TX9) (N := 18) (v := v 5) hx hb hts in_X9 hown hK hM hR rfl 5 (by decide) fl_23 (fun _ h => h) rfl dX9_threeAt_41 ?_
            refine tpv (hv5) ?_
            refine lv_sipush (v := 1331) hx hb dX9_threeAt_44 (by decide) ?_
            refine lv_iload hx hb dX9_threeAt_47 (lv_at hl 5 rfl) ?_
            refine lv_imul hx hb dX9_threeAt_49 ?_
            refine tpi (x' := nI (1331 * bN mi)) (pk_mul 1331 _) ?_
            refine lv_iload hx hb dX9_threeAt_50 (lv_at hl 6 rfl) ?_
            refine lv_iadd hx hb dX9_threeAt_52 ?_
            refine tpi (x' := nI (1331 * bN mi + k)) (nI_add _ _) ?_
            refine lv_aload_n hx hb dX9_threeAt_53 rfl (lv_at hl 0 rfl) ?_
            refine lv_iload hx hb dX9_threeAt_54 (lv_at hl 5 rfl) ?_
            refine lv_iload_n hx hb dX9_threeAt_56 rfl (lv_at hl 1 rfl) ?_
            refine lv_iload hx hb dX9_threeAt_57 (lv_at hl 6 rfl) ?_
            refine lv_bipush (v := 121) hx hb dX9_threeAt_59 (by decide) ?_
            refine lv_idiv hx hb dX9_threeAt_61 (by decide) ?_
            refine tpi (x' := nI (k / 121)) (pk_div (d := 121) (by omega) (by decide) (by decide)) ?_
            refine lv_iload hx hb dX9_threeAt_62 (lv_at hl 6 rfl) ?_
            refine lv_bipush (v := 11) hx hb dX9_threeAt_64 (by decide) ?_
            refine lv_idiv hx hb dX9_threeAt_66 (by decide) ?_
            refine tpi (x' := nI (k / 11)) (pk_div (d := 11) (by omega) (by decide) (by decide)) ?_
            refine lv_bipush (v := 11) hx hb dX9_threeAt_67 (by decide) ?_
            refine lv_irem hx hb dX9_threeAt_69 (by decide) ?_
            refine tpi (x' := nI (k / 11 % 11)) (pk_rem (d := 11) (by omega) (by decide) (by decide)) ?_
            refine lv_iload hx hb dX9_threeAt_70 (lv_at hl 6 rfl) ?_
            refine lv_bipush (v := 11) hx hb dX9_threeAt_72 (by decide) ?_
            refine lv_irem hx hb dX9_threeAt_74 (by decide) ?_
            refine tpi (x' := nI (k % 11)) (pk_rem (d := 11) (by omega) (by decide) (by decide)) ?_
            refine cpV (As := [.int (nI (bN mi)), .int (bI mi), .int (nI (k / 121)), .int (nI (k / 11 % 11)), .int (nI (k % 11))]) (rest := [.int (nI (1331 * bN mi + k)), .ref th]) (k_X9_goThree l D cA _ m0 v th it f mi (k / 121) (k / 11 % 11) (k % 11) hR hv5 hv6 hth (by omega) (by omega) (by omega) (by rw [e3]; exact hup)) ⟨hx, hb, hml, hown, hts⟩ (cwV 5 hts gX9_threeAt_X9_goThree rfl rfl rfl (by decide +kernel) ⟨by decide, by decide⟩) hK hM hR rfl rfl hl.1 rfl (Nat.le_of_ble_eq_true rfl) dX9_threeAt_75 ⟨by decide, by decide⟩ ?_
            refine tpi (x' := bI (!l3 mi k)) (by rw [e3]) ?_
            refine m_zastN (k := 1331 * bN mi + k) hx hb hK hh hth (bI_01 _) (rfl) (by omega) (by decide) dX9_threeAt_78 (fun M1 H1 locs1 e1 hh => ?_)
            have hR := mu_kp e1 (mp_ne hR hth (by simp)) hR
            have hit := mu_kp e1 (mp_ne hit hth (by simp)) hit
            have hth := mu_at e1
            have hkp := hkp.put e1 (by simp)
            have hth : M1 th = some (.inl (cA 2, 2662, .inl (upd f (1331 * bN mi + k) (bI (!l3 mi k))))) := hth
            have hM := hh.1
            refine lv_iinc (v := nI (k + 1)) (lv' := [(6, .int (nI (k + 1))), (0, .ref m0), (1, .int (bI mi)), (2, .int (nI a)), (3, .int (nI b)), (4, .int (nI c0)), (5, .int (nI (bN mi)))]) hx hb dX9_threeAt_79 hl (k := 6) rfl (nI_up k) (by decide) rfl (fun ls hl => ?_)
            refine lv_goto (tgt := 32) hx hb dX9_threeAt_82 (by decide) ?_
            exact ih_32 (k + 1) ((upd f (1331 * bN mi + k) (bI (!l3 mi k)))) _ _ _ _ (by omega) hup.nxt (fun i hi => by rw [pk_un (by omega)]; exact hot i hi) hh hkp hR hth hit (by omega) (lv_sub hl [1, 2, 3, 4, 5, 6, 0] rfl)
      exact j_32 (1332) 0 ft _ _ _ _ (by omega) (fun j hj _ => absurd hj (Nat.not_lt_zero _)) (fun _ _ => rfl) hh hkp hR hth hit (by omega) (lv_sub hl [2, 3, 4, 5, 6, 1, 0] rfl)
set_option maxHeartbeats 1000000 in
set_option maxRecDepth 100000 in
theorem k_X9_byAll (l : Launch) (D : va_G) (cA : Nat → ClassId) (M : mp) (m0 : Nat) (v : Nat → Value) (wn ov th it : Nat) (g : Int32) (mi : Bool) (a b c0 : Int32)  (hR : M m0 = some (.inr (9, rL v))) (hv3 : v 3 = .ref wn) (hv4 : v 4 = .ref ov) (hv5 : v 5 = .ref th) (hv6 : v 6 = .ref it) (hRT : rtW cA M wn ov th it)  : MC l D cA yX9_byAll wsX9_byAll 2 54 0 0 [.ref m0, .int g, .int (bI mi), .int a, .int b, .int c0] M (fun r M' => r = some (.int (byV g mi a b c0)) ∧ rtW cA M' wn ov th it ∧ kpL M M' [wn, ov, th, it]) := by
  refine MC.of (cc := cX9_byAll) (maxL := 6) (ret := (some .int)) (by decide) rfl (Nat.le_of_ble_eq_true rfl) ?_
  intro p e s m args below meth c Q ls B hh hl hretv hreti hretz hretl hreta
  obtain ⟨hx, hb, hown, hts, hml, hK, hin⟩ := B
  have hM := hh.1
  have hM_0 := hh.1
  have hkp : kpL M M [wn, ov, th, it] := kpL.rf M _
  have hown : s.vm.findClass RX9 = some m.cls := hown
  have hl : lv_has ls 6 [(0, .ref m0), (1, .int g), (2, .int (bI mi)), (3, .int a), (4, .int b), (5, .int c0)] := hl
  have cst_125 := hts (.constantLong RX9 125 (60)) (by decide +kernel)
  have cst_130 := hts (.constantLong RX9 130 (10)) (by decide +kernel)
  obtain ⟨⟨fw, fo, hwn, hov, hT2⟩, ⟨ft, fi, hth, hit, hT3⟩⟩ := id hRT
  refine lv_iload_n hx hb dX9_byAll_0 rfl (lv_at hl 1 rfl) ?_
  refine bz_eq (tgt := 9) hx hb dX9_byAll_1 (by decide) (fun c_1 n_1 => ?_) (fun c_1 n_1 => ?_)
  · skip
    refine lv_iload_n hx hb dX9_byAll_9 rfl (lv_at hl 3 rfl) ?_
    refine lv_i2l hx hb dX9_byAll_10 rfl ?_
    refine lv_lconst (v := 0) hx hb dX9_byAll_11 (by decide) ?_
    refine lv_ldc2 hx hb hown cst_125 dX9_byAll_12 ?_
    refine cpS (As := [.long ((a).toInt64), .long 0, .long 60]) (rest := []) (k_X9_in l D cA _ (a.toInt64) 0 60) ⟨hx, hb, hml, hown, hts⟩ (va_cwS 3 hts gX9_byAll_X9_in rfl rfl rfl (by decide +kernel) ⟨by decide, by decide⟩) hK hM rfl hl.1 rfl (Nat.le_of_ble_eq_true rfl) dX9_byAll_15 ⟨by decide, by decide⟩ ?_
    refine bz_eq (tgt := 34) hx hb dX9_byAll_18 (by decide) (fun c_18 n_18 => ?_) (fun c_18 n_18 => ?_)
    · skip
      have h1 := bI_eq0 c_18
      refine lv_bipush (v := (-2)) hx hb dX9_byAll_34 (by decide) ?_
      refine lv_goto (tgt := 56) hx hb dX9_byAll_36 (by decide) ?_
      exact hreti _ _ _ _ _ _ _ _ hh (⟨by rw [by_2b (Or.inl c_1) (Or.inl h1)], hRT, hkp⟩) (by decide) (by decide) dX9_byAll_56 rfl
    · skip
      have h1 := bI_ne0 c_18
      refine lv_iload hx hb dX9_byAll_21 (lv_at hl 4 rfl) ?_
      refine lv_i2l hx hb dX9_byAll_23 rfl ?_
      refine lv_lconst (v := 0) hx hb dX9_byAll_24 (by decide) ?_
      refine lv_ldc2 hx hb hown cst_125 dX9_byAll_25 ?_
      refine cpS (As := [.long ((b).toInt64), .long 0, .long 60]) (rest := []) (k_X9_in l D cA _ (b.toInt64) 0 60) ⟨hx, hb, hml, hown, hts⟩ (va_cwS 3 hts gX9_byAll_X9_in rfl rfl rfl (by decide +kernel) ⟨by decide, by decide⟩) hK hM rfl hl.1 rfl (Nat.le_of_ble_eq_true rfl) dX9_byAll_28 ⟨by decide, by decide⟩ ?_
      refine bz_ne (tgt := 39) hx hb dX9_byAll_31 (by decide) (fun c_31 n_31 => ?_) (fun c_31 n_31 => ?_)
      · skip
        have h2 := bI_ne0 c_31
        obtain ⟨ea, -, la⟩ := in_i32 (a := 0) (b := 60) (by decide) h1 (by decide)
        obtain ⟨eb, -, lb⟩ := in_i32 (a := 0) (b := 60) (by decide) h2 (by decide)
        have eg : g = nI (nB g) ∧ nB g ≤ 1 := by subst c_1; decide
        refine lv_aload_n hx hb dX9_byAll_39 rfl (lv_at hl 0 rfl) ?_
        refine lv_iload_n hx hb dX9_byAll_40 rfl (lv_at hl 1 rfl) ?_
        refine lv_iload_n hx hb dX9_byAll_41 rfl (lv_at hl 2 rfl) ?_
        refine lv_iload_n hx hb dX9_byAll_42 rfl (lv_at hl 3 rfl) ?_
        refine lv_iload hx hb dX9_byAll_43 (lv_at hl 4 rfl) ?_
        refine cmV (As := [.int g, .int (bI mi), .int a, .int b]) (rest := []) (by have h9 := k_X9_wonAt l D cA M m0 v wn ov fw fo (nB g) mi (nB a) (nB b) hR hv3 hv4 hwn hov hT2 eg.2 la lb; rw [← eg.1, ← ea, ← eb] at h9; exact h9) ⟨hx, hb, hml, hown, hts⟩ (cwV 4 hts gX9_byAll_X9_wonAt rfl rfl rfl (by decide +kernel) ⟨by decide, by decide⟩) hK hh hR rfl rfl hl.1 rfl (Nat.le_of_ble_eq_true rfl) dX9_byAll_45 ⟨by decide, by decide⟩ (fun v9 M1 H1 locs1 hpost hh hz9 hk9 hn9 => ?_)
        obtain ⟨rfl, ⟨fw', fo', hwn1, hov1, hT21⟩, hkc⟩ := hpost
        have hRT1 : rtW cA M1 wn ov th it := ⟨⟨fw', fo', hwn1, hov1, hT21⟩, ⟨ft, fi, hkc _ _ hth (ni2 (mp_ne hth hwn (by simp)) (mp_ne hth hov (by simp))), hkc _ _ hit (ni2 (mp_ne hit hwn (by simp)) (mp_ne hit hov (by simp))), hT3⟩⟩
        have hkp := hkp.call hkc (by simp)
        have hM := hh.1
        refine W.eq (g2 := F0 m 48 ls [.int (bI (!lsB (nB g) mi (nB a) (nB b)))]) rfl ?_
        refine bz_eq (tgt := 55) hx hb dX9_byAll_48 (by decide) (fun c_48 n_48 => ?_) (fun c_48 n_48 => ?_)
        · skip
          have h5 := bI_eq0 c_48
          refine lv_iconst (v := 0) hx hb dX9_byAll_55 (by decide) ?_
          exact hreti _ _ _ _ _ _ _ _ hh (⟨by rw [by_2 (Or.inl c_1) h1 h2, h5]; rfl, hRT1, hkp⟩) (by decide) (by decide) dX9_byAll_56 rfl
        · skip
          have h5 := bI_ne0 c_48
          refine lv_iconst (v := 1) hx hb dX9_byAll_51 (by decide) ?_
          refine lv_goto (tgt := 56) hx hb dX9_byAll_52 (by decide) ?_
          exact hreti _ _ _ _ _ _ _ _ hh (⟨by rw [by_2 (Or.inl c_1) h1 h2, h5]; rfl, hRT1, hkp⟩) (by decide) (by decide) dX9_byAll_56 rfl
      · skip
        have h2 := bI_eq0 c_31
        refine lv_bipush (v := (-2)) hx hb dX9_byAll_34 (by decide) ?_
        refine lv_goto (tgt := 56) hx hb dX9_byAll_36 (by decide) ?_
        exact hreti _ _ _ _ _ _ _ _ hh (⟨by rw [by_2b (Or.inl c_1) (Or.inr h2)], hRT, hkp⟩) (by decide) (by decide) dX9_byAll_56 rfl
  · skip
    refine lv_iload_n hx hb dX9_byAll_4 rfl (lv_at hl 1 rfl) ?_
    refine lv_iconst (v := 1) hx hb dX9_byAll_5 (by decide) ?_
    refine bi_ne (tgt := 57) hx hb dX9_byAll_6 (by decide) (fun c_6 n_6 => ?_) (fun c_6 n_6 => ?_)
    · skip
      refine lv_iload_n hx hb dX9_byAll_57 rfl (lv_at hl 1 rfl) ?_
      refine lv_iconst (v := 3) hx hb dX9_byAll_58 (by decide) ?_
      refine bi_ne (tgt := 100) hx hb dX9_byAll_59 (by decide) (fun c_59 n_59 => ?_) (fun c_59 n_59 => ?_)
      · skip
        refine lv_bipush (v := (-2)) hx hb dX9_byAll_100 (by decide) ?_
        refine lv_goto (tgt := 123) hx hb dX9_byAll_102 (by decide) ?_
        exact hreti _ _ _ _ _ _ _ _ hh (⟨by rw [by_3b c_1 c_6 (Or.inl c_59)], hRT, hkp⟩) (by decide) (by decide) dX9_byAll_123 rfl
      · skip
        refine lv_iload_n hx hb dX9_byAll_62 rfl (lv_at hl 3 rfl) ?_
        refine lv_i2l hx hb dX9_byAll_63 rfl ?_
        refine lv_lconst (v := 0) hx hb dX9_byAll_64 (by decide) ?_
        refine lv_ldc2 hx hb hown cst_130 dX9_byAll_65 ?_
        refine cpS (As := [.long ((a).toInt64), .long 0, .long 10]) (rest := []) (k_X9_in l D cA _ (a.toInt64) 0 10) ⟨hx, hb, hml, hown, hts⟩ (va_cwS 3 hts gX9_byAll_X9_in rfl rfl rfl (by decide +kernel) ⟨by decide, by decide⟩) hK hM rfl hl.1 rfl (Nat.le_of_ble_eq_true rfl) dX9_byAll_68 ⟨by decide, by decide⟩ ?_
        refine bz_eq (tgt := 100) hx hb dX9_byAll_71 (by decide) (fun c_71 n_71 => ?_) (fun c_71 n_71 => ?_)
        · skip
          have h1 := bI_eq0 c_71
          refine lv_bipush (v := (-2)) hx hb dX9_byAll_100 (by decide) ?_
          refine lv_goto (tgt := 123) hx hb dX9_byAll_102 (by decide) ?_
          exact hreti _ _ _ _ _ _ _ _ hh (⟨by rw [by_3b c_1 c_6 (Or.inr (Or.inl h1))], hRT, hkp⟩) (by decide) (by decide) dX9_byAll_123 rfl
        · skip
          have h1 := bI_ne0 c_71
          refine lv_iload hx hb dX9_byAll_74 (lv_at hl 4 rfl) ?_
          refine lv_i2l hx hb dX9_byAll_76 rfl ?_
          refine lv_lconst (v := 0) hx hb dX9_byAll_77 (by decide) ?_
          refine lv_ldc2 hx hb hown cst_130 dX9_byAll_78 ?_
          refine cpS (As := [.long ((b).toInt64), .long 0, .long 10]) (rest := []) (k_X9_in l D cA _ (b.toInt64) 0 10) ⟨hx, hb, hml, hown, hts⟩ (va_cwS 3 hts gX9_byAll_X9_in rfl rfl rfl (by decide +kernel) ⟨by decide, by decide⟩) hK hM rfl hl.1 rfl (Nat.le_of_ble_eq_true rfl) dX9_byAll_81 ⟨by decide, by decide⟩ ?_
          refine bz_eq (tgt := 100) hx hb dX9_byAll_84 (by decide) (fun c_84 n_84 => ?_) (fun c_84 n_84 => ?_)
          · skip
            have h2 := bI_eq0 c_84
            refine lv_bipush (v := (-2)) hx hb dX9_byAll_100 (by decide) ?_
            refine lv_goto (tgt := 123) hx hb dX9_byAll_102 (by decide) ?_
            exact hreti _ _ _ _ _ _ _ _ hh (⟨by rw [by_3b c_1 c_6 (Or.inr (Or.inr (Or.inl h2)))], hRT, hkp⟩) (by decide) (by decide) dX9_byAll_123 rfl
          · skip
            have h2 := bI_ne0 c_84
            refine lv_iload hx hb dX9_byAll_87 (lv_at hl 5 rfl) ?_
            refine lv_i2l hx hb dX9_byAll_89 rfl ?_
            refine lv_lconst (v := 0) hx hb dX9_byAll_90 (by decide) ?_
            refine lv_ldc2 hx hb hown cst_130 dX9_byAll_91 ?_
            refine cpS (As := [.long ((c0).toInt64), .long 0, .long 10]) (rest := []) (k_X9_in l D cA _ (c0.toInt64) 0 10) ⟨hx, hb, hml, hown, hts⟩ (va_cwS 3 hts gX9_byAll_X9_in rfl rfl rfl (by decide +kernel) ⟨by decide, by decide⟩) hK hM rfl hl.1 rfl (Nat.le_of_ble_eq_true rfl) dX9_byAll_94 ⟨by decide, by decide⟩ ?_
            refine bz_ne (tgt := 105) hx hb dX9_byAll_97 (by decide) (fun c_97 n_97 => ?_) (fun c_97 n_97 => ?_)
            · skip
              have h3 := bI_ne0 c_97
              obtain ⟨ea, -, la⟩ := in_i32 (a := 0) (b := 10) (by decide) h1 (by decide)
              obtain ⟨eb, -, lb⟩ := in_i32 (a := 0) (b := 10) (by decide) h2 (by decide)
              obtain ⟨ec, -, lc⟩ := in_i32 (a := 0) (b := 10) (by decide) h3 (by decide)
              refine lv_aload_n hx hb dX9_byAll_105 rfl (lv_at hl 0 rfl) ?_
              refine lv_iload_n hx hb dX9_byAll_106 rfl (lv_at hl 2 rfl) ?_
              refine lv_iload_n hx hb dX9_byAll_107 rfl (lv_at hl 3 rfl) ?_
              refine lv_iload hx hb dX9_byAll_108 (lv_at hl 4 rfl) ?_
              refine lv_iload hx hb dX9_byAll_110 (lv_at hl 5 rfl) ?_
              refine cmV (As := [.int (bI mi), .int a, .int b, .int c0]) (rest := []) (by have h9 := k_X9_threeAt l D cA M m0 v th it ft fi mi (nB a) (nB b) (nB c0) hR hv5 hv6 hth la lb lc hit hT3; rw [← ea, ← eb, ← ec] at h9; exact h9) ⟨hx, hb, hml, hown, hts⟩ (cwV 4 hts gX9_byAll_X9_threeAt rfl rfl rfl (by decide +kernel) ⟨by decide, by decide⟩) hK hh hR rfl rfl hl.1 rfl (Nat.le_of_ble_eq_true rfl) dX9_byAll_112 ⟨by decide, by decide⟩ (fun v9 M1 H1 locs1 hpost hh hz9 hk9 hn9 => ?_)
              obtain ⟨rfl, ⟨ft', fi', hth1, hit1, hT31⟩, hkc⟩ := hpost
              have hRT1 : rtW cA M1 wn ov th it := ⟨⟨fw, fo, hkc _ _ hwn (ni2 (mp_ne hwn hth (by simp)) (mp_ne hwn hit (by simp))), hkc _ _ hov (ni2 (mp_ne hov hth (by simp)) (mp_ne hov hit (by simp))), hT2⟩, ⟨ft', fi', hth1, hit1, hT31⟩⟩
              have hkp := hkp.call hkc (by simp)
              have hM := hh.1
              refine W.eq (g2 := F0 m 115 ls [.int (bI (!ls3 mi (nB a) (nB b) (nB c0)))]) rfl ?_
              refine bz_eq (tgt := 122) hx hb dX9_byAll_115 (by decide) (fun c_115 n_115 => ?_) (fun c_115 n_115 => ?_)
              · skip
                have h5 := bI_eq0 c_115
                refine lv_iconst (v := 0) hx hb dX9_byAll_122 (by decide) ?_
                exact hreti _ _ _ _ _ _ _ _ hh (⟨by rw [by_3 c_59 h1 h2 h3, h5]; rfl, hRT1, hkp⟩) (by decide) (by decide) dX9_byAll_123 rfl
              · skip
                have h5 := bI_ne0 c_115
                refine lv_iconst (v := 1) hx hb dX9_byAll_118 (by decide) ?_
                refine lv_goto (tgt := 123) hx hb dX9_byAll_119 (by decide) ?_
                exact hreti _ _ _ _ _ _ _ _ hh (⟨by rw [by_3 c_59 h1 h2 h3, h5]; rfl, hRT1, hkp⟩) (by decide) (by decide) dX9_byAll_123 rfl
            · skip
              have h3 := bI_eq0 c_97
              refine lv_bipush (v := (-2)) hx hb dX9_byAll_100 (by decide) ?_
              refine lv_goto (tgt := 123) hx hb dX9_byAll_102 (by decide) ?_
              exact hreti _ _ _ _ _ _ _ _ hh (⟨by rw [by_3b c_1 c_6 (Or.inr (Or.inr (Or.inr h3)))], hRT, hkp⟩) (by decide) (by decide) dX9_byAll_123 rfl
    · skip
      refine lv_iload_n hx hb dX9_byAll_9 rfl (lv_at hl 3 rfl) ?_
      refine lv_i2l hx hb dX9_byAll_10 rfl ?_
      refine lv_lconst (v := 0) hx hb dX9_byAll_11 (by decide) ?_
      refine lv_ldc2 hx hb hown cst_125 dX9_byAll_12 ?_
      refine cpS (As := [.long ((a).toInt64), .long 0, .long 60]) (rest := []) (k_X9_in l D cA _ (a.toInt64) 0 60) ⟨hx, hb, hml, hown, hts⟩ (va_cwS 3 hts gX9_byAll_X9_in rfl rfl rfl (by decide +kernel) ⟨by decide, by decide⟩) hK hM rfl hl.1 rfl (Nat.le_of_ble_eq_true rfl) dX9_byAll_15 ⟨by decide, by decide⟩ ?_
      refine bz_eq (tgt := 34) hx hb dX9_byAll_18 (by decide) (fun c_18 n_18 => ?_) (fun c_18 n_18 => ?_)
      · skip
        have h1 := bI_eq0 c_18
        refine lv_bipush (v := (-2)) hx hb dX9_byAll_34 (by decide) ?_
        refine lv_goto (tgt := 56) hx hb dX9_byAll_36 (by decide) ?_
        exact hreti _ _ _ _ _ _ _ _ hh (⟨by rw [by_2b (Or.inr c_6) (Or.inl h1)], hRT, hkp⟩) (by decide) (by decide) dX9_byAll_56 rfl
      · skip
        have h1 := bI_ne0 c_18
        refine lv_iload hx hb dX9_byAll_21 (lv_at hl 4 rfl) ?_
        refine lv_i2l hx hb dX9_byAll_23 rfl ?_
        refine lv_lconst (v := 0) hx hb dX9_byAll_24 (by decide) ?_
        refine lv_ldc2 hx hb hown cst_125 dX9_byAll_25 ?_
        refine cpS (As := [.long ((b).toInt64), .long 0, .long 60]) (rest := []) (k_X9_in l D cA _ (b.toInt64) 0 60) ⟨hx, hb, hml, hown, hts⟩ (va_cwS 3 hts gX9_byAll_X9_in rfl rfl rfl (by decide +kernel) ⟨by decide, by decide⟩) hK hM rfl hl.1 rfl (Nat.le_of_ble_eq_true rfl) dX9_byAll_28 ⟨by decide, by decide⟩ ?_
        refine bz_ne (tgt := 39) hx hb dX9_byAll_31 (by decide) (fun c_31 n_31 => ?_) (fun c_31 n_31 => ?_)
        · skip
          have h2 := bI_ne0 c_31
          obtain ⟨ea, -, la⟩ := in_i32 (a := 0) (b := 60) (by decide) h1 (by decide)
          obtain ⟨eb, -, lb⟩ := in_i32 (a := 0) (b := 60) (by decide) h2 (by decide)
          have eg : g = nI (nB g) ∧ nB g ≤ 1 := by subst c_6; decide
          refine lv_aload_n hx hb dX9_byAll_39 rfl (lv_at hl 0 rfl) ?_
          refine lv_iload_n hx hb dX9_byAll_40 rfl (lv_at hl 1 rfl) ?_
          refine lv_iload_n hx hb dX9_byAll_41 rfl (lv_at hl 2 rfl) ?_
          refine lv_iload_n hx hb dX9_byAll_42 rfl (lv_at hl 3 rfl) ?_
          refine lv_iload hx hb dX9_byAll_43 (lv_at hl 4 rfl) ?_
          refine cmV (As := [.int g, .int (bI mi), .int a, .int b]) (rest := []) (by have h9 := k_X9_wonAt l D cA M m0 v wn ov fw fo (nB g) mi (nB a) (nB b) hR hv3 hv4 hwn hov hT2 eg.2 la lb; rw [← eg.1, ← ea, ← eb] at h9; exact h9) ⟨hx, hb, hml, hown, hts⟩ (cwV 4 hts gX9_byAll_X9_wonAt rfl rfl rfl (by decide +kernel) ⟨by decide, by decide⟩) hK hh hR rfl rfl hl.1 rfl (Nat.le_of_ble_eq_true rfl) dX9_byAll_45 ⟨by decide, by decide⟩ (fun v9 M1 H1 locs1 hpost hh hz9 hk9 hn9 => ?_)
          obtain ⟨rfl, ⟨fw', fo', hwn1, hov1, hT21⟩, hkc⟩ := hpost
          have hRT1 : rtW cA M1 wn ov th it := ⟨⟨fw', fo', hwn1, hov1, hT21⟩, ⟨ft, fi, hkc _ _ hth (ni2 (mp_ne hth hwn (by simp)) (mp_ne hth hov (by simp))), hkc _ _ hit (ni2 (mp_ne hit hwn (by simp)) (mp_ne hit hov (by simp))), hT3⟩⟩
          have hkp := hkp.call hkc (by simp)
          have hM := hh.1
          refine W.eq (g2 := F0 m 48 ls [.int (bI (!lsB (nB g) mi (nB a) (nB b)))]) rfl ?_
          refine bz_eq (tgt := 55) hx hb dX9_byAll_48 (by decide) (fun c_48 n_48 => ?_) (fun c_48 n_48 => ?_)
          · skip
            have h5 := bI_eq0 c_48
            refine lv_iconst (v := 0) hx hb dX9_byAll_55 (by decide) ?_
            exact hreti _ _ _ _ _ _ _ _ hh (⟨by rw [by_2 (Or.inr c_6) h1 h2, h5]; rfl, hRT1, hkp⟩) (by decide) (by decide) dX9_byAll_56 rfl
          · skip
            have h5 := bI_ne0 c_48
            refine lv_iconst (v := 1) hx hb dX9_byAll_51 (by decide) ?_
            refine lv_goto (tgt := 56) hx hb dX9_byAll_52 (by decide) ?_
            exact hreti _ _ _ _ _ _ _ _ hh (⟨by rw [by_2 (Or.inr c_6) h1 h2, h5]; rfl, hRT1, hkp⟩) (by decide) (by decide) dX9_byAll_56 rfl
        · skip
          have h2 := bI_eq0 c_31
          refine lv_bipush (v := (-2)) hx hb dX9_byAll_34 (by decide) ?_
          refine lv_goto (tgt := 56) hx hb dX9_byAll_36 (by decide) ?_
          exact hreti _ _ _ _ _ _ _ _ hh (⟨by rw [by_2b (Or.inr c_6) (Or.inr h2)], hRT, hkp⟩) (by decide) (by decide) dX9_byAll_56 rfl
