set_option maxHeartbeats 4000000 in
set_option maxRecDepth 100000 in
theorem k_X9_partner (l : Launch) (D : va_G) (cA : Nat → ClassId) (M : mp) (m0 : Nat) (v : Nat → Value) (fb : Nat) (f : Nat → Int64) (n : Nat) (hR : M m0 = some (.inr (9, rL v))) (hv0 : v 0 = .ref fb) (hfb : M fb = some (.inl (cA 0, 64, .inr (.inl f)))) (hf : ∀ j, j < 64 → f j = lN (fibN j)) (hn : n ≤ 1000000000000) : MC l D cA yX9_partner wsX9_partner 2 55 0 0 [.ref m0, .long (lN n)] M (fun r M' => r = some (.long (lN (prtF n))) ∧ (∃ v', M' m0 = some (.inr (9, rL v')) ∧ agr v v') ∧ kpL M M' [m0]) := by
  refine MC.of (cc := cX9_partner) (maxL := 3) (ret := (some .long)) (by decide) rfl (Nat.le_of_ble_eq_true rfl) ?_
  intro p e s m args below meth c Q ls B hh hl hretv hreti hretz hretl hreta
  obtain ⟨hx, hb, hown, hts, hml, hK, hin⟩ := B
  have hM := hh.1
  have hkp : kpL M M [m0] := kpL.rf M _
  have hown : s.vm.findClass RX9 = some m.cls := hown
  have hl : lv_has ls 3 [(0, .ref m0), (1, .long (lN n))] := hl
  have in_X9 : ∀ w ∈ wsX90, w ∈ wsX9_partner := by decide +kernel
  have fl_75 := hts (.fieldLink RX9 75 "GoldHeapsModel" "foundLesser" "Z") (by decide +kernel)
  have fl_71 := hts (.fieldLink RX9 71 "GoldHeapsModel" "foundK" "J") (by decide +kernel)
  have hpr := prt_ref hn
  refine lv_aload_n hx hb dX9_partner_0 rfl (lv_at hl 0 rfl) ?_
  refine lv_lload_n hx hb dX9_partner_1 rfl (lv_at hl 1 rfl) ?_
  refine cmV (As := [.long (lN n)]) (rest := []) (k_X9_find l D cA _ m0 v fb f n hR hv0 hfb hf hn) ⟨hx, hb, hml, hown, hts⟩ (cwV 1 hts gX9_partner_X9_find rfl rfl rfl (by decide +kernel) ⟨by decide, by decide⟩) hK hh hR rfl rfl hl.1 rfl (Nat.le_of_ble_eq_true rfl) dX9_partner_2 ⟨by decide, by decide⟩ (fun v9 M1 H1 locs1 hpost hh hz9 hk9 hn9 => ?_)
  obtain ⟨rfl, ⟨v1, hR1, hv15, hv16, hag⟩, hkc⟩ := hpost
  have hfb : M1 fb = some (.inl (cA 0, 64, .inr (.inl f))) := hkc.k1 hR hfb (by simp)
  have hR : M1 m0 = some (.inr (9, rL v1)) := hR1
  have hkp := hkp.call hkc (by simp)
  have hM := hh.1
  refine W.eq (g2 := F0 m 5 ls []) rfl ?_
  refine lv_aload_n hx hb dX9_partner_5 rfl (lv_at hl 0 rfl) ?_
  refine m_get (ci := 9) (C := RX9) (T := TX9) (N := 18) (v := v1 16) hx hb hts in_X9 hown hK hM hR rfl 16 (by decide) fl_75 (fun _ h => h) rfl dX9_partner_6 ?_
  refine tpv (hv16) ?_
  refine bz_eq (tgt := 21) hx hb dX9_partner_9 (by decide) (fun c_9 n_9 => ?_) (fun c_9 n_9 => ?_)
  · skip
    have hl0 := bI_eq0 c_9
    refine lv_lload_n hx hb dX9_partner_21 rfl (lv_at hl 1 rfl) ?_
    refine lv_aload_n hx hb dX9_partner_22 rfl (lv_at hl 0 rfl) ?_
    refine m_get (ci := 9) (C := RX9) (T := TX9) (N := 18) (v := v1 15) hx hb hts in_X9 hown hK hM hR rfl 15 (by decide) fl_71 (fun _ h => h) rfl dX9_partner_23 ?_
    refine tpv (hv15) ?_
    refine lv_lsub hx hb dX9_partner_26 ?_
    refine tpl (x' := lN (prtF n)) (by rw [lN_sub (hpr.2 hl0).2, (hpr.2 hl0).1]) ?_
    exact hretl _ _ _ _ _ _ _ _ hh (⟨rfl, ⟨v1, hR, hag⟩, hkp⟩) (by decide) (by decide) dX9_partner_27 rfl
  · skip
    have hl1 := bI_ne0 c_9
    refine lv_lload_n hx hb dX9_partner_12 rfl (lv_at hl 1 rfl) ?_
    refine lv_aload_n hx hb dX9_partner_13 rfl (lv_at hl 0 rfl) ?_
    refine m_get (ci := 9) (C := RX9) (T := TX9) (N := 18) (v := v1 15) hx hb hts in_X9 hown hK hM hR rfl 15 (by decide) fl_71 (fun _ h => h) rfl dX9_partner_14 ?_
    refine tpv (hv15) ?_
    refine lv_ladd hx hb dX9_partner_17 ?_
    refine tpl (x' := lN (prtF n)) (by rw [lN_add, hpr.1 hl1]) ?_
    refine lv_goto (tgt := 27) hx hb dX9_partner_18 (by decide) ?_
    exact hretl _ _ _ _ _ _ _ _ hh (⟨rfl, ⟨v1, hR, hag⟩, hkp⟩) (by decide) (by decide) dX9_partner_27 rfl
set_option maxHeartbeats 4000000 in
set_option maxRecDepth 100000 in
theorem k_X9_findRow (l : Launch) (D : va_G) (cA : Nat → ClassId) (M : mp) (m0 : Nat) (v : Nat → Value) (ra : Nat) (f0 : Nat → Int64) (t : Nat)  (hR : M m0 = some (.inr (9, rL v))) (hv1 : v 1 = .ref ra) (hrw : M ra = some (.inl (cA 0, 500, .inr (.inl f0)))) (ht1 : 1 ≤ t) (ht9 : t ≤ 9)  : MC l D cA yX9_findRow wsX9_findRow 0 0 0 0 [.ref m0, .int (nI t)] M (fun r M' => r = none ∧ (∃ v' f', M' m0 = some (.inr (9, rL v')) ∧ v' 2 = .int (nI (rsz t - 1)) ∧ (∀ k, k ≠ 2 → v' k = v k) ∧ M' ra = some (.inl (cA 0, 500, .inr (.inl f'))) ∧ ∀ j, j < rsz t - 1 → f' j = lN (rowN t j)) ∧ kpL M M' [m0, ra]) := by
  refine MC.of (cc := cX9_findRow) (maxL := 5) (ret := none) (by decide) rfl (Nat.le_of_ble_eq_true rfl) ?_
  intro p e s m args below meth c Q ls B hh hl hretv hreti hretz hretl hreta
  obtain ⟨hx, hb, hown, hts, hml, hK, hin⟩ := B
  have hM := hh.1
  have hkp : kpL M M [m0, ra] := kpL.rf M _
  have hown : s.vm.findClass RX9 = some m.cls := hown
  have hl : lv_has ls 5 [(0, .ref m0), (1, .int (nI t))] := hl
  have in_X9 : ∀ w ∈ wsX90, w ∈ wsX9_findRow := by decide +kernel
  have fl_13 := hts (.fieldLink RX9 13 "GoldHeapsModel" "row" "[J") (by decide +kernel)
  have fl_90 := hts (.fieldLink RX9 90 "GoldHeapsModel" "rowMany" "I") (by decide +kernel)
  have cst_48 := hts (.constantLong RX9 48 (1000000000000)) (by decide +kernel)
  obtain ⟨hz1, hz2, hz3, hz4, hz5⟩ := row_0 t (by omega) ht1
  refine lv_aload_n hx hb dX9_findRow_0 rfl (lv_at hl 0 rfl) ?_
  refine m_get (ci := 9) (C := RX9) (T := TX9) (N := 18) (v := v 1) hx hb hts in_X9 hown hK hM hR rfl 1 (by decide) fl_13 (fun _ h => h) rfl dX9_findRow_1 ?_
  refine tpv (hv1) ?_
  refine lv_iconst (v := 0) hx hb dX9_findRow_4 (by decide) ?_
  refine lv_lconst (v := 1) hx hb dX9_findRow_5 (by decide) ?_
  refine tpl (x' := lN (rowN t 0)) (by rw [hz1]; rfl) ?_
  refine m_lastN (k := 0) hx hb hK hh hrw (rfl) (by decide) (by decide) dX9_findRow_6 (fun M1 H1 locs1 e1 hh => ?_)
  have hR := mu_kp e1 (mp_ne hR hrw (by simp)) hR
  have hrw := mu_at e1
  have hkp := hkp.put e1 (by simp)
  have hrw : M1 ra = some (.inl (cA 0, 500, .inr (.inl (vp_updL f0 0 (lN (rowN t 0)))))) := hrw
  have hM := hh.1
  refine lv_aload_n hx hb dX9_findRow_7 rfl (lv_at hl 0 rfl) ?_
  refine lv_iconst (v := 1) hx hb dX9_findRow_8 (by decide) ?_
  refine tpi (x' := nI (0 + 1)) (rfl) ?_
  refine m_put (ci := 9) (C := RX9) (T := TX9) (N := 18) (v := .int (nI (0 + 1))) hx hb hts in_X9 tyX9 tyX9_ok nmX9 hown hK hh hR rfl 2 (by decide) fl_90 (fun _ h => h) rfl (ty := tyX9 2) (by decide +kernel) (rfl) (rfl) (Nat.le_of_ble_eq_true rfl) dX9_findRow_9 (fun M1 H1 locs1 e1 hh => ?_)
  have hrw := mu_kp e1 (mp_ne hrw hR (by simp)) hrw
  have hR := mu_at e1
  have hkp := hkp.put e1 (by simp)
  have hR : M1 m0 = some (.inr (9, rL (va_up v 2 (.int (nI (0 + 1)))))) := hR
  have hM := hh.1
  refine lv_iconst (v := 0) hx hb dX9_findRow_12 (by decide) ?_
  refine tpi (x' := nI 0) (rfl) ?_
  refine lv_istore_n (lv' := [(2, .int (nI 0)), (0, .ref m0), (1, .int (nI t))]) hx hb dX9_findRow_13 rfl hl (by decide) rfl (fun ls hl => ?_)
  refine lv_lconst (v := 1) hx hb dX9_findRow_14 (by decide) ?_
  refine tpl (x' := lN (rowN t 0)) (by rw [hz1]; rfl) ?_
  refine lv_lstore_n (lv' := [(3, .long (lN (rowN t 0))), (2, .int (nI 0)), (0, .ref m0), (1, .int (nI t))]) hx hb dX9_findRow_15 rfl hl (by decide) rfl (fun ls hl => ?_)
  have j_16 : ∀ (fu : Nat) (i mm : Nat) (fr : Nat → Int64) (w : Nat → Value) (M1 : mp) (H : Heap) (locs : List Loc) (ls : Array Slot), (i + 1 < rsz t) → (mm = ptrN t i ∨ (mm + 1 = ptrN t i ∧ t * rowN t mm < rowN t i)) → (∀ j, j ≤ i → fr j = lN (rowN t j)) → (w 2 = .int (nI (i + 1))) → (∀ k, k ≠ 2 → w k = v k) → (hw D M s.heap M1 H locs) → (kpL M M1 [m0, ra]) → (M1 m0 = some (.inr (9, rL w))) → (M1 ra = some (.inl (cA 0, 500, .inr (.inl fr)))) → (2 * (240 - i) + (ptrN t i - mm) < fu) → lv_has ls 5 [(0, .ref m0), (1, .int (nI t)), (2, .int (nI mm)), (3, .long (lN (rowN t i)))] → W p l e ({ frames := 0, cells := 0, slots := 0, locals := 0 } : Room) s m args below meth c H locs 0 0 Q (F0 m 16 ls []) := by
    intro fu
    induction fu with
    | zero => intro i mm fr w M1 H locs ls hi hm hfr hw2 hwo hh hkp hR hrw hm_16 _; exact absurd hm_16 (Nat.not_lt_zero _)
    | succ fu ih_16 =>
      intro i mm fr w M1 H locs ls hi hm hfr hw2 hwo hh hkp hR hrw hm_16 hl
      have hM := hh.1
      have hrs := row_s ht1 ht9 hi
      have hpm := row_pos ht1 ht9 (i := mm) (by omega)
      have hpi := row_pos ht1 ht9 (i := i) (by omega)
      have hmb : t * rowN t mm ≤ 9 * 2000000000000 := Nat.mul_le_mul ht9 hpm.2
      refine lv_iload_n hx hb dX9_findRow_16 rfl (lv_at hl 1 rfl) ?_
      refine lv_i2l hx hb dX9_findRow_17 rfl ?_
      refine tpl (x' := lN t) (nI_l (by omega)) ?_
      refine lv_aload_n hx hb dX9_findRow_18 rfl (lv_at hl 0 rfl) ?_
      refine m_get (ci := 9) (C := RX9) (T := TX9) (N := 18) (v := w 1) hx hb hts in_X9 hown hK hM hR rfl 1 (by decide) fl_13 (fun _ h => h) rfl dX9_findRow_19 ?_
      refine tpv ((hwo 1 (by decide)).trans hv1) ?_
      refine lv_iload_n hx hb dX9_findRow_22 rfl (lv_at hl 2 rfl) ?_
      refine m_laldN (k := mm) hx hb hK hM hrw (rfl) (by omega) (by decide) dX9_findRow_23 ?_
      refine tpl (x' := lN (rowN t mm)) (hfr mm (by omega)) ?_
      refine lv_lmul hx hb dX9_findRow_24 ?_
      refine tpl (x' := lN (t * rowN t mm)) (lN_mul _ _) ?_
      refine lv_lload_n hx hb dX9_findRow_25 rfl (lv_at hl 3 rfl) ?_
      refine bl_ge (tgt := 36) hx hb dX9_findRow_26 dX9_findRow_27 (by decide) (fun c_27 n_27 => ?_) (fun c_27 n_27 => ?_)
      · skip
        have hge : rowN t i ≤ t * rowN t mm := (ln_le (by omega) (by omega)).mp c_27
        have hm0 : mm = ptrN t i := by rcases hm with g | g; exact g; omega
        refine lv_lload_n hx hb dX9_findRow_36 rfl (lv_at hl 3 rfl) ?_
        refine lv_aload_n hx hb dX9_findRow_37 rfl (lv_at hl 0 rfl) ?_
        refine m_get (ci := 9) (C := RX9) (T := TX9) (N := 18) (v := w 1) hx hb hts in_X9 hown hK hM hR rfl 1 (by decide) fl_13 (fun _ h => h) rfl dX9_findRow_38 ?_
        refine tpv ((hwo 1 (by decide)).trans hv1) ?_
        refine lv_iload_n hx hb dX9_findRow_41 rfl (lv_at hl 2 rfl) ?_
        refine m_laldN (k := mm) hx hb hK hM hrw (rfl) (by omega) (by decide) dX9_findRow_42 ?_
        refine tpl (x' := lN (rowN t mm)) (hfr mm (by omega)) ?_
        refine lv_ladd hx hb dX9_findRow_43 ?_
        refine tpl (x' := lN (rowN t (i + 1))) (by rw [lN_add, hrs.1, hm0]) ?_
        refine lv_lstore_n (lv' := [(3, .long (lN (rowN t (i + 1)))), (0, .ref m0), (1, .int (nI t)), (2, .int (nI mm))]) hx hb dX9_findRow_44 rfl hl (by decide) rfl (fun ls hl => ?_)
        refine lv_lload_n hx hb dX9_findRow_45 rfl (lv_at hl 0 rfl) ?_
        refine lv_ldc2 hx hb hown cst_48 dX9_findRow_46 ?_
        refine tpl (x' := lN 1000000000000) (l12) ?_
        refine bl_le (tgt := 54) hx hb dX9_findRow_49 dX9_findRow_50 (by decide) (fun c_50 n_50 => ?_) (fun c_50 n_50 => ?_)
        · skip
          have hsm : rowN t (i + 1) ≤ 1000000000000 := (ln_le (by omega) (by omega)).mp c_50
          have hi2 : i + 1 + 1 < rsz t := by rcases Nat.lt_or_ge (i + 1 + 1) (rsz t) with g | g; exact g; (have e : i + 1 = rsz t - 1 := (by omega)); rw [e] at hsm; omega
          refine lv_aload_n hx hb dX9_findRow_54 rfl (lv_at hl 1 rfl) ?_
          refine m_get (ci := 9) (C := RX9) (T := TX9) (N := 18) (v := w 1) hx hb hts in_X9 hown hK hM hR rfl 1 (by decide) fl_13 (fun _ h => h) rfl dX9_findRow_55 ?_
          refine tpv ((hwo 1 (by decide)).trans hv1) ?_
          refine lv_aload_n hx hb dX9_findRow_58 rfl (lv_at hl 1 rfl) ?_
          refine m_get (ci := 9) (C := RX9) (T := TX9) (N := 18) (v := w 2) hx hb hts in_X9 hown hK hM hR rfl 2 (by decide) fl_90 (fun _ h => h) rfl dX9_findRow_59 ?_
          refine tpv (hw2) ?_
          refine lv_lload_n hx hb dX9_findRow_62 rfl (lv_at hl 0 rfl) ?_
          refine m_lastN (k := i + 1) hx hb hK hh hrw (rfl) (by omega) (by decide) dX9_findRow_63 (fun M1 H1 locs1 e1 hh => ?_)
          have hR := mu_kp e1 (mp_ne hR hrw (by simp)) hR
          have hrw := mu_at e1
          have hkp := hkp.put e1 (by simp)
          have hrw : M1 ra = some (.inl (cA 0, 500, .inr (.inl (vp_updL fr (i + 1) (lN (rowN t (i + 1))))))) := hrw
          have hM := hh.1
          refine lv_aload_n hx hb dX9_findRow_64 rfl (lv_at hl 1 rfl) ?_
          refine lv_dup hx hb dX9_findRow_65 rfl ?_
          refine m_get (ci := 9) (C := RX9) (T := TX9) (N := 18) (v := w 2) hx hb hts in_X9 hown hK hM hR rfl 2 (by decide) fl_90 (fun _ h => h) rfl dX9_findRow_66 ?_
          refine tpv (hw2) ?_
          refine lv_iconst (v := 1) hx hb dX9_findRow_69 (by decide) ?_
          refine lv_iadd hx hb dX9_findRow_70 ?_
          refine tpi (x' := nI (i + 1 + 1)) (nI_1 _) ?_
          refine m_put (ci := 9) (C := RX9) (T := TX9) (N := 18) (v := .int (nI (i + 1 + 1))) hx hb hts in_X9 tyX9 tyX9_ok nmX9 hown hK hh hR rfl 2 (by decide) fl_90 (fun _ h => h) rfl (ty := tyX9 2) (by decide +kernel) (rfl) (rfl) (Nat.le_of_ble_eq_true rfl) dX9_findRow_71 (fun M1 H1 locs1 e1 hh => ?_)
          have hrw := mu_kp e1 (mp_ne hrw hR (by simp)) hrw
          have hR := mu_at e1
          have hkp := hkp.put e1 (by simp)
          have hR : M1 m0 = some (.inr (9, rL (va_up w 2 (.int (nI (i + 1 + 1)))))) := hR
          have hM := hh.1
          refine lv_goto (tgt := 16) hx hb dX9_findRow_74 (by decide) ?_
          exact ih_16 (i + 1) mm ((vp_updL fr (i + 1) (lN (rowN t (i + 1))))) ((va_up w 2 (.int (nI (i + 1 + 1))))) _ _ _ _ hi2 (by rw [hm0]; rcases row_p ht1 ht9 (i := i) (by omega) with g | g; exact Or.inl g.symm; exact Or.inr ⟨g.1.symm, g.2⟩) (fun j hj => by by_cases e : j = i + 1; rw [e, pk_uLs]; rw [pk_uLn e]; exact hfr j (by omega)) (va_up_self _ _ _) (fun k hk => (va_up_ne _ _ hk).trans (hwo k hk)) hh hkp hR hrw (by rcases row_p ht1 ht9 (i := i) (by omega) with g | g <;> omega) (lv_sub hl [1, 2, 3, 0] rfl)
        · skip
          have hbg : 1000000000000 < rowN t (i + 1) := (ln_lt (by omega) (by omega)).mp c_50
          have hi2 : i + 1 = rsz t - 1 := by rcases Nat.lt_or_ge (i + 1 + 1) (rsz t) with g | g; (have := (row_s ht1 ht9 g).2.2.2.1; omega); omega
          exact hretv _ _ _ _ _ _ _ hh (⟨rfl, ⟨w, fr, hR, by rw [hw2, hi2], hwo, hrw, fun j hj => hfr j (by omega)⟩, hkp⟩) (by decide) (by decide) dX9_findRow_53 rfl
      · skip
        have hlt : t * rowN t mm < rowN t i := (ln_lt (by omega) (by omega)).mp c_27
        have hm1 : mm + 1 = ptrN t i ∧ True := by rcases hm with g | g; (rw [g] at hlt; omega); exact ⟨g.1, trivial⟩
        refine lv_iinc (v := nI (mm + 1)) (lv' := [(2, .int (nI (mm + 1))), (0, .ref m0), (1, .int (nI t)), (3, .long (lN (rowN t i)))]) hx hb dX9_findRow_30 hl (k := 2) rfl (nI_up mm) (by decide) rfl (fun ls hl => ?_)
        refine lv_goto (tgt := 16) hx hb dX9_findRow_33 (by decide) ?_
        exact ih_16 i (mm + 1) fr w _ _ _ _ hi (Or.inl hm1.1) hfr hw2 hwo hh hkp hR hrw (by omega) (lv_sub hl [1, 2, 0, 3] rfl)
  exact j_16 (600) 0 0 ((vp_updL f0 0 (lN (rowN t 0)))) ((va_up v 2 (.int (nI (0 + 1))))) _ _ _ _ (by omega) (Or.inl hz2.symm) (fun j hj => by rw [show j = 0 by omega, pk_uLs]) rfl (fun k hk => va_up_ne _ _ hk) hh hkp hR hrw (by omega) (lv_sub hl [2, 3, 1, 0] rfl)
set_option maxHeartbeats 4000000 in
set_option maxRecDepth 100000 in
theorem k_X9_lastOf (l : Launch) (D : va_G) (cA : Nat → ClassId) (M : mp) (m0 : Nat) (v : Nat → Value) (ra : Nat) (f0 : Nat → Int64) (t : Nat) (n : Nat) (hR : M m0 = some (.inr (9, rL v))) (hv1 : v 1 = .ref ra) (hrw : M ra = some (.inl (cA 0, 500, .inr (.inl f0)))) (ht1 : 1 ≤ t) (ht9 : t ≤ 9) (hn : n ≤ 1000000000000) : MC l D cA yX9_lastOf wsX9_lastOf 1 24 0 0 [.ref m0, .int (nI t), .long (lN n)] M (fun r M' => r = some (.long (lN (enF (rowN t) (rsz t - 1) n 0))) ∧ (∃ v' f', M' m0 = some (.inr (9, rL v')) ∧ v' 17 = .int (nI (cnF (rowN t) (rsz t - 1) n)) ∧ (∀ k, k ≠ 2 → k ≠ 17 → v' k = v k) ∧ M' ra = some (.inl (cA 0, 500, .inr (.inl f')))) ∧ kpL M M' [m0, ra]) := by
  refine MC.of (cc := cX9_lastOf) (maxL := 9) (ret := (some .long)) (by decide) rfl (Nat.le_of_ble_eq_true rfl) ?_
  intro p e s m args below meth c Q ls B hh hl hretv hreti hretz hretl hreta
  obtain ⟨hx, hb, hown, hts, hml, hK, hin⟩ := B
  have hM := hh.1
  have hkp : kpL M M [m0, ra] := kpL.rf M _
  have hown : s.vm.findClass RX9 = some m.cls := hown
  have hl : lv_has ls 9 [(0, .ref m0), (1, .int (nI t)), (2, .long (lN n))] := hl
  have in_X9 : ∀ w ∈ wsX90, w ∈ wsX9_lastOf := by decide +kernel
  have fl_103 := hts (.fieldLink RX9 103 "GoldHeapsModel" "digitMany" "I") (by decide +kernel)
  have fl_90 := hts (.fieldLink RX9 90 "GoldHeapsModel" "rowMany" "I") (by decide +kernel)
  have fl_13 := hts (.fieldLink RX9 13 "GoldHeapsModel" "row" "[J") (by decide +kernel)
  obtain ⟨hz1, hz2, hz3, hz4, hz5⟩ := row_0 t (by omega) ht1
  refine lv_aload_n hx hb dX9_lastOf_0 rfl (lv_at hl 0 rfl) ?_
  refine lv_iload_n hx hb dX9_lastOf_1 rfl (lv_at hl 1 rfl) ?_
  refine cmV (As := [.int (nI t)]) (rest := []) (k_X9_findRow l D cA _ m0 v ra f0 t hR hv1 hrw ht1 ht9) ⟨hx, hb, hml, hown, hts⟩ (cwV 1 hts gX9_lastOf_X9_findRow rfl rfl rfl (by decide +kernel) ⟨by decide, by decide⟩) hK hh hR rfl rfl hl.1 rfl (Nat.le_of_ble_eq_true rfl) dX9_lastOf_2 ⟨by decide, by decide⟩ (fun v9 M1 H1 locs1 hpost hh hz9 hk9 hn9 => ?_)
  obtain ⟨rfl, ⟨v1, f1, hR1, hv2, hvo, hrw1, hf1⟩, hkc⟩ := hpost
  have hR : M1 m0 = some (.inr (9, rL v1)) := hR1
  have hrw : M1 ra = some (.inl (cA 0, 500, .inr (.inl f1))) := hrw1
  have hkp := hkp.call hkc (by simp)
  have hM := hh.1
  refine W.eq (g2 := F0 m 5 ls []) rfl ?_
  refine lv_lload_n hx hb dX9_lastOf_5 rfl (lv_at hl 2 rfl) ?_
  refine lv_lstore (lv' := [(4, .long (lN n)), (0, .ref m0), (1, .int (nI t)), (2, .long (lN n))]) hx hb dX9_lastOf_6 hl (by decide) rfl (fun ls hl => ?_)
  refine lv_lconst (v := 0) hx hb dX9_lastOf_8 (by decide) ?_
  refine tpl (x' := lN 0) (l_0) ?_
  refine lv_lstore (lv' := [(6, .long (lN 0)), (4, .long (lN n)), (0, .ref m0), (1, .int (nI t)), (2, .long (lN n))]) hx hb dX9_lastOf_9 hl (by decide) rfl (fun ls hl => ?_)
  refine lv_aload_n hx hb dX9_lastOf_11 rfl (lv_at hl 2 rfl) ?_
  refine lv_iconst (v := 0) hx hb dX9_lastOf_12 (by decide) ?_
  refine tpi (x' := nI 0) (rfl) ?_
  refine m_put (ci := 9) (C := RX9) (T := TX9) (N := 18) (v := .int (nI 0)) hx hb hts in_X9 tyX9 tyX9_ok nmX9 hown hK hh hR rfl 17 (by decide) fl_103 (fun _ h => h) rfl (ty := tyX9 17) (by decide +kernel) (rfl) (rfl) (Nat.le_of_ble_eq_true rfl) dX9_lastOf_13 (fun M1 H1 locs1 e1 hh => ?_)
  have hrw := mu_kp e1 (mp_ne hrw hR (by simp)) hrw
  have hR := mu_at e1
  have hkp := hkp.put e1 (by simp)
  have hR : M1 m0 = some (.inr (9, rL (va_up v1 17 (.int (nI 0))))) := hR
  have hM := hh.1
  refine lv_aload_n hx hb dX9_lastOf_16 rfl (lv_at hl 2 rfl) ?_
  refine m_get (ci := 9) (C := RX9) (T := TX9) (N := 18) (v := (va_up v1 17 (.int (nI 0))) 2) hx hb hts in_X9 hown hK hM hR rfl 2 (by decide) fl_90 (fun _ h => h) rfl dX9_lastOf_17 ?_
  refine tpv ((va_up_ne _ _ (by decide)).trans (hv2)) ?_
  refine lv_iconst (v := 1) hx hb dX9_lastOf_20 (by decide) ?_
  refine lv_isub hx hb dX9_lastOf_21 ?_
  refine lv_istore (lv' := [(8, .int ((nI (rsz t - 1) - 1))), (6, .long (lN 0)), (4, .long (lN n)), (0, .ref m0), (1, .int (nI t)), (2, .long (lN n))]) hx hb dX9_lastOf_22 hl (by decide) rfl (fun ls hl => ?_)
  have j_24 : ∀ (fu : Nat) (k left x cn : Nat) (w : Nat → Value) (M1 : mp) (H : Heap) (locs : List Loc) (ls : Array Slot), (k ≤ rsz t - 1) → (left ≤ n) → (enF (rowN t) k left x = enF (rowN t) (rsz t - 1) n 0) → (cn + cnF (rowN t) k left = cnF (rowN t) (rsz t - 1) n) → (w 17 = .int (nI cn)) → (w 1 = .ref ra) → (∀ k, k ≠ 2 → k ≠ 17 → w k = v k) → (hw D M s.heap M1 H locs) → (kpL M M1 [m0, ra]) → (M1 m0 = some (.inr (9, rL w))) → (M1 ra = some (.inl (cA 0, 500, .inr (.inl f1)))) → (k < fu) → lv_has ls 9 [(0, .ref m0), (4, .long (lN left)), (6, .long (lN x)), (8, .int (nI k - 1))] → W p l e ({ frames := 1, cells := 0, slots := 0, locals := 24 } : Room) s m args below meth c H locs 0 0 Q (F0 m 24 ls []) := by
    intro fu
    induction fu with
    | zero => intro k left x cn w M1 H locs ls hk hle hs hc hw17 hw1 hwo hh hkp hR hrw hm_24 _; exact absurd hm_24 (Nat.not_lt_zero _)
    | succ fu ih_24 =>
      intro k left x cn w M1 H locs ls hk hle hs hc hw17 hw1 hwo hh hkp hR hrw hm_24 hl
      have hM := hh.1
      refine lv_iload hx hb dX9_lastOf_24 (lv_at hl 3 rfl) ?_
      refine bz_lt (tgt := 86) hx hb dX9_lastOf_26 (by decide) (fun c_26 n_26 => ?_) (fun c_26 n_26 => ?_)
      · skip
        have hk0 := nD_neg (by omega) c_26
        refine lv_lload hx hb dX9_lastOf_86 (lv_at hl 2 rfl) ?_
        exact hretl _ _ _ _ _ _ _ _ hh (⟨by subst hk0; exact congrArg (fun z => some (Value.long (lN z))) hs, ⟨w, f1, hR, by subst hk0; rw [hw17]; exact congrArg (fun z => Value.int (nI z)) hc, hwo, hrw⟩, hkp⟩) (by decide) (by decide) dX9_lastOf_88 rfl
      · skip
        obtain ⟨i, hi⟩ := nD_pos c_26
        have hpos := row_pos ht1 ht9 (i := i) (by omega)
        refine lv_lload hx hb dX9_lastOf_29 (lv_at hl 1 rfl) ?_
        refine lv_lconst (v := 0) hx hb dX9_lastOf_31 (by decide) ?_
        refine bl_le (tgt := 86) hx hb dX9_lastOf_32 dX9_lastOf_33 (by decide) (fun c_33 n_33 => ?_) (fun c_33 n_33 => ?_)
        · skip
          have hl0 : left = 0 := by have := (ln_le (by omega) (by decide)).mp (show lN left ≤ lN 0 by rw [← l_0]; exact c_33); omega
          have hall : ∀ j, j < k → 1 ≤ rowN t j := fun j hj => (row_pos ht1 ht9 (i := j) (by omega)).1
          refine lv_lload hx hb dX9_lastOf_86 (lv_at hl 2 rfl) ?_
          exact hretl _ _ _ _ _ _ _ _ hh (⟨by rw [hl0, enF_0 _ _ _ hall] at hs; rw [hs], ⟨w, f1, hR, by rw [hl0, cnF_0 _ _ hall] at hc; rw [hw17, ← hc]; rfl, hwo, hrw⟩, hkp⟩) (by decide) (by decide) dX9_lastOf_88 rfl
        · skip
          refine lv_aload_n hx hb dX9_lastOf_36 rfl (lv_at hl 0 rfl) ?_
          refine m_get (ci := 9) (C := RX9) (T := TX9) (N := 18) (v := w 1) hx hb hts in_X9 hown hK hM hR rfl 1 (by decide) fl_13 (fun _ h => h) rfl dX9_lastOf_37 ?_
          refine tpv (hw1) ?_
          refine lv_iload hx hb dX9_lastOf_40 (lv_at hl 3 rfl) ?_
          refine m_laldN (k := i) hx hb hK hM hrw (nD_at hi) (by omega) (by decide) dX9_lastOf_42 ?_
          refine tpl (x' := lN (rowN t i)) (hf1 i (by omega)) ?_
          refine lv_lload hx hb dX9_lastOf_43 (lv_at hl 1 rfl) ?_
          refine bl_gt (tgt := 80) hx hb dX9_lastOf_45 dX9_lastOf_46 (by decide) (fun c_46 n_46 => ?_) (fun c_46 n_46 => ?_)
          · skip
            have hlt : left < rowN t i := (ln_lt (by omega) (by omega)).mp c_46
            refine lv_iinc (v := nI i - 1) (lv' := [(8, .int (nI i - 1)), (0, .ref m0), (4, .long (lN left)), (6, .long (lN x))]) hx hb dX9_lastOf_80 hl (k := 3) rfl (nD_dec hi) (by decide) rfl (fun ls hl => ?_)
            refine lv_goto (tgt := 24) hx hb dX9_lastOf_83 (by decide) ?_
            exact ih_24 i left x cn w _ _ _ _ (by omega) hle (by rw [← hs, hi]; show enF _ i left x = (if rowN t i ≤ left then _ else _); rw [if_neg (by omega)]) (by rw [← hc, hi]; show cn + _ = cn + (if rowN t i ≤ left then _ else _); rw [if_neg (by omega)]) hw17 hw1 hwo hh hkp hR hrw (by omega) (lv_sub hl [1, 2, 3, 0] rfl)
          · skip
            have hge : rowN t i ≤ left := (ln_le (by omega) (by omega)).mp c_46
            refine lv_lload hx hb dX9_lastOf_49 (lv_at hl 1 rfl) ?_
            refine lv_aload_n hx hb dX9_lastOf_51 rfl (lv_at hl 0 rfl) ?_
            refine m_get (ci := 9) (C := RX9) (T := TX9) (N := 18) (v := w 1) hx hb hts in_X9 hown hK hM hR rfl 1 (by decide) fl_13 (fun _ h => h) rfl dX9_lastOf_52 ?_
            refine tpv (hw1) ?_
            refine lv_iload hx hb dX9_lastOf_55 (lv_at hl 3 rfl) ?_
            refine m_laldN (k := i) hx hb hK hM hrw (nD_at hi) (by omega) (by decide) dX9_lastOf_57 ?_
            refine tpl (x' := lN (rowN t i)) (hf1 i (by omega)) ?_
            refine lv_lsub hx hb dX9_lastOf_58 ?_
            refine tpl (x' := lN (left - rowN t i)) (lN_sub hge) ?_
            refine lv_lstore (lv' := [(4, .long (lN (left - rowN t i))), (0, .ref m0), (6, .long (lN x)), (8, .int (nI k - 1))]) hx hb dX9_lastOf_59 hl (by decide) rfl (fun ls hl => ?_)
            refine lv_aload_n hx hb dX9_lastOf_61 rfl (lv_at hl 1 rfl) ?_
            refine m_get (ci := 9) (C := RX9) (T := TX9) (N := 18) (v := w 1) hx hb hts in_X9 hown hK hM hR rfl 1 (by decide) fl_13 (fun _ h => h) rfl dX9_lastOf_62 ?_
            refine tpv (hw1) ?_
            refine lv_iload hx hb dX9_lastOf_65 (lv_at hl 3 rfl) ?_
            refine m_laldN (k := i) hx hb hK hM hrw (nD_at hi) (by omega) (by decide) dX9_lastOf_67 ?_
            refine tpl (x' := lN (rowN t i)) (hf1 i (by omega)) ?_
            refine lv_lstore (lv' := [(6, .long (lN (rowN t i))), (4, .long (lN (left - rowN t i))), (0, .ref m0), (8, .int (nI k - 1))]) hx hb dX9_lastOf_68 hl (by decide) rfl (fun ls hl => ?_)
            refine lv_aload_n hx hb dX9_lastOf_70 rfl (lv_at hl 2 rfl) ?_
            refine lv_dup hx hb dX9_lastOf_71 rfl ?_
            refine m_get (ci := 9) (C := RX9) (T := TX9) (N := 18) (v := w 17) hx hb hts in_X9 hown hK hM hR rfl 17 (by decide) fl_103 (fun _ h => h) rfl dX9_lastOf_72 ?_
            refine tpv (hw17) ?_
            refine lv_iconst (v := 1) hx hb dX9_lastOf_75 (by decide) ?_
            refine lv_iadd hx hb dX9_lastOf_76 ?_
            refine tpi (x' := nI (cn + 1)) (nI_1 _) ?_
            refine m_put (ci := 9) (C := RX9) (T := TX9) (N := 18) (v := .int (nI (cn + 1))) hx hb hts in_X9 tyX9 tyX9_ok nmX9 hown hK hh hR rfl 17 (by decide) fl_103 (fun _ h => h) rfl (ty := tyX9 17) (by decide +kernel) (rfl) (rfl) (Nat.le_of_ble_eq_true rfl) dX9_lastOf_77 (fun M1 H1 locs1 e1 hh => ?_)
            have hrw := mu_kp e1 (mp_ne hrw hR (by simp)) hrw
            have hR := mu_at e1
            have hkp := hkp.put e1 (by simp)
            have hR : M1 m0 = some (.inr (9, rL (va_up w 17 (.int (nI (cn + 1)))))) := hR
            have hM := hh.1
            refine lv_iinc (v := nI i - 1) (lv' := [(8, .int (nI i - 1)), (6, .long (lN (rowN t i))), (4, .long (lN (left - rowN t i))), (0, .ref m0)]) hx hb dX9_lastOf_80 hl (k := 3) rfl (nD_dec hi) (by decide) rfl (fun ls hl => ?_)
            refine lv_goto (tgt := 24) hx hb dX9_lastOf_83 (by decide) ?_
            exact ih_24 i (left - rowN t i) (rowN t i) (cn + 1) ((va_up w 17 (.int (nI (cn + 1))))) _ _ _ _ (by omega) (by omega) (by rw [← hs, hi]; show _ = (if rowN t i ≤ left then _ else _); rw [if_pos hge]) (by rw [← hc, hi]; show _ = cn + (if rowN t i ≤ left then _ else _); rw [if_pos hge]; omega) (va_up_self _ _ _) ((va_up_ne _ _ (by decide)).trans (hw1)) (fun k h1 h2 => (va_up_ne _ _ h2).trans (hwo k h1 h2)) hh hkp hR hrw (by omega) (lv_sub hl [3, 2, 1, 0] rfl)
  exact j_24 (rsz t) (rsz t - 1) n 0 0 ((va_up v1 17 (.int (nI 0)))) _ _ _ _ (Nat.le_refl _) (Nat.le_refl _) rfl (Nat.zero_add _) rfl ((va_up_ne _ _ (by decide)).trans ((hvo 1 (by decide)).trans hv1)) (fun k h1 h2 => (va_up_ne _ _ h2).trans (hvo k h1)) hh hkp hR hrw (by omega) (lv_sub hl [3, 2, 1, 0] rfl)
