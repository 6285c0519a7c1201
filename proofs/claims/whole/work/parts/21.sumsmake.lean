set_option maxHeartbeats 1000000 in
set_option maxRecDepth 100000 in
theorem k_X6_init (l : Launch) (D : va_G) (cA : Nat → ClassId) (M : mp) (h0 t : Nat) (hS : M h0 = some (.inr (6, [.null, .int 0]))) (ht1 : 1 ≤ t) (ht9 : t ≤ 9) : MC l D cA yX6_init wsX6_init 1 20 1 240 [.ref h0, .int (nI t)] M (fun r M' => r = none ∧ sumW cA M' t h0 ∧ kpL M M' [h0]) := by
  refine MC.of (cc := cX6_init) (maxL := 6) (ret := none) (by decide) rfl (Nat.le_of_ble_eq_true rfl) ?_
  intro p e s m args below meth c Q ls B hh hl hretv hreti hretz hretl hreta
  obtain ⟨hx, hb, hown, hts, hml, hK, hin⟩ := B
  have hM := hh.1
  have hM_0 := hh.1
  have hkp : kpL M M [h0] := kpL.rf M _
  have hown : s.vm.findClass RX6 = some m.cls := hown
  have hl : lv_has ls 6 [(0, .ref h0), (1, .int (nI t))] := hl
  have ob_l := hts (.methodLink RX6 3 objectInit) (by decide +kernel)
  have ob_i := hts (.instanceMethod objectInit) (by decide +kernel)
  have ob_c := hts (.code objectInit ⟨#[0xb1]⟩ 1 none) (by decide +kernel)
  have ac_long := hts (.arrayClass .long) (by decide +kernel)
  have in_X6 : ∀ w ∈ wsX60, w ∈ wsX6_init := by decide +kernel
  have fl_11 := hts (.fieldLink RX6 11 "GoldHeaps$Sums" "numbers" "[J") (by decide +kernel)
  have cst_15 := hts (.constantLong RX6 15 (1000000000000)) (by decide +kernel)
  have fl_17 := hts (.fieldLink RX6 17 "GoldHeaps$Sums" "size" "I") (by decide +kernel)
  obtain ⟨hz1, hz2, hz3, hz4, hz5⟩ := row_0 t (by omega) ht1
  refine lv_aload_n hx hb dX6_init_0 rfl (lv_at hl 0 rfl) ?_
  refine W.objInit hx hb hown ob_l ob_i ob_c rfl (by rw [hml]; exact hl.1) rfl dX6_init_1 (Nat.le_of_ble_eq_true rfl) (Nat.le_of_ble_eq_true rfl) ?_
  refine W.eq (g2 := F0 m 4 ls []) rfl ?_
  refine lv_aload_n hx hb dX6_init_4 rfl (lv_at hl 0 rfl) ?_
  refine lv_sipush (v := 240) hx hb dX6_init_5 (by decide) ?_
  have hho := hh
  refine m_newa 0 rfl (atype := .long) hx hb (ty := .long) ac_long rfl hK hh (N' := 240) (a0 := (240, (.inr (.inl (fun _ => (0 : Int64)))))) (cellJ0 240) (by decide +kernel) (by decide +kernel) (by decide +kernel) (Nat.le_of_ble_eq_true rfl) (Nat.le_of_ble_eq_true rfl) dX6_init_8 (fun n0 M1 H1 hq e1 hh => ?_)
  have hkp := hkp.new hM hq e1
  have hf_n0 : M n0 = none := by rw [hq]; exact hho.new0 hM_0
  have hS := mu_kp e1 (by rw [hq]; exact hM.ne hS) hS
  have hN := mu_at e1
  have hN : M1 n0 = some (.inl (cA 0, 240, .inr (.inl (fun _ => (0 : Int64))))) := hN
  have hM := hh.1
  refine W.widen (k := 1) (n := 240) (by decide) (by decide) ?_
  refine m_putF (ci := 6) (C := RX6) (T := TX6) (N := 2) (v := .ref n0) hx hb hts in_X6 tyX6 tyX6_ok nmX6 hown hK hh hS rfl 0 (by decide) fl_11 (fun _ h => h) rfl hin rfl (ty := tyX6 0) (by decide +kernel) (rfl) (rfl) (Nat.le_of_ble_eq_true rfl) dX6_init_10 (fun M1 H1 locs1 e1 hh => ?_)
  have hN := mu_kp e1 (mp_ne hN hS (by simp)) hN
  have hS := mu_at e1
  have hkp := hkp.put e1 (by simp)
  have hS : M1 h0 = some (.inr (6, [.ref n0, .int 0])) := hS
  have hM := hh.1
  refine lv_aload_n hx hb dX6_init_13 rfl (lv_at hl 0 rfl) ?_
  refine m_get (ci := 6) (C := RX6) (T := TX6) (N := 2) (v := .ref n0) hx hb hts in_X6 hown hK hM hS rfl 0 (by decide) fl_11 (fun _ h => h) rfl dX6_init_14 ?_
  refine lv_iconst (v := 0) hx hb dX6_init_17 (by decide) ?_
  refine lv_lconst (v := 1) hx hb dX6_init_18 (by decide) ?_
  refine tpl (x' := lN (rowN t 0)) (by rw [hz1]; rfl) ?_
  refine m_lastN (k := 0) hx hb hK hh hN (rfl) (by decide) (by decide) dX6_init_19 (fun M1 H1 locs1 e1 hh => ?_)
  have hS := mu_kp e1 (mp_ne hS hN (by simp)) hS
  have hN := mu_at e1
  have hkp := hkp.putN e1 hf_n0
  have hN : M1 n0 = some (.inl (cA 0, 240, .inr (.inl (vp_updL (fun _ => (0 : Int64)) 0 (lN (rowN t 0)))))) := hN
  have hM := hh.1
  refine lv_iconst (v := 1) hx hb dX6_init_20 (by decide) ?_
  refine tpi (x' := nI (0 + 1)) (rfl) ?_
  refine lv_istore_n (lv' := [(2, .int (nI (0 + 1))), (0, .ref h0), (1, .int (nI t))]) hx hb dX6_init_21 rfl hl (by decide) rfl (fun ls hl => ?_)
  refine lv_iconst (v := 0) hx hb dX6_init_22 (by decide) ?_
  refine tpi (x' := nI 0) (rfl) ?_
  refine lv_istore_n (lv' := [(3, .int (nI 0)), (2, .int (nI (0 + 1))), (0, .ref h0), (1, .int (nI t))]) hx hb dX6_init_23 rfl hl (by decide) rfl (fun ls hl => ?_)
  have j_24 : ∀ (fu : Nat) (i mm : Nat) (fr : Nat → Int64) (M1 : mp) (H : Heap) (locs : List Loc) (ls : Array Slot), (i < rsz t) → (mm ≤ i) → (i + 1 < rsz t → mm = ptrN t i ∨ (mm + 1 = ptrN t i ∧ t * rowN t mm < rowN t i)) → (∀ j, j ≤ i → fr j = lN (rowN t j)) → (hw D M s.heap M1 H locs) → (kpL M M1 [h0]) → (M1 h0 = some (.inr (6, [.ref n0, .int 0]))) → (M1 n0 = some (.inl (cA 0, 240, .inr (.inl fr)))) → (240 - i < fu) → lv_has ls 6 [(0, .ref h0), (1, .int (nI t)), (2, .int (nI (i + 1))), (3, .int (nI mm))] → W p l e ({ frames := 1, cells := 1, slots := 240, locals := 20 } : Room) s m args below meth c H locs 1 240 Q (F0 m 24 ls []) := by
    intro fu
    induction fu with
    | zero => intro i mm fr M1 H locs ls hi hmi hm hfr hh hkp hS hN hm_24 _; exact absurd hm_24 (Nat.not_lt_zero _)
    | succ fu ih_24 =>
      intro i mm fr M1 H locs ls hi hmi hm hfr hh hkp hS hN hm_24 hl
      have hM := hh.1
      have hpi := row_pos ht1 ht9 (i := i) (by omega)
      refine lv_iload_n hx hb dX6_init_24 rfl (lv_at hl 2 rfl) ?_
      refine lv_sipush (v := 240) hx hb dX6_init_25 (by decide) ?_
      refine bi_ge (tgt := 105) hx hb dX6_init_28 (by decide) (fun c_28 n_28 => ?_) (fun c_28 n_28 => ?_)
      · exact absurd ((nI_leI (a := 240) (b := i + 1) (by decide) (by omega)).mp c_28) (by omega)
      · skip
        refine lv_aload_n hx hb dX6_init_31 rfl (lv_at hl 0 rfl) ?_
        refine m_get (ci := 6) (C := RX6) (T := TX6) (N := 2) (v := .ref n0) hx hb hts in_X6 hown hK hM hS rfl 0 (by decide) fl_11 (fun _ h => h) rfl dX6_init_32 ?_
        refine lv_iload_n hx hb dX6_init_35 rfl (lv_at hl 2 rfl) ?_
        refine lv_iconst (v := 1) hx hb dX6_init_36 (by decide) ?_
        refine lv_isub hx hb dX6_init_37 ?_
        refine m_laldN (k := i) hx hb hK hM hN (nD_succ i) (by omega) (by decide) dX6_init_38 ?_
        refine tpl (x' := lN (rowN t i)) (hfr i (Nat.le_refl _)) ?_
        refine lv_ldc2 hx hb hown cst_15 dX6_init_39 ?_
        refine tpl (x' := lN 1000000000000) (l12) ?_
        refine bl_gt (tgt := 105) hx hb dX6_init_42 dX6_init_43 (by decide) (fun c_43 n_43 => ?_) (fun c_43 n_43 => ?_)
        · skip
          have hbg : 1000000000000 < rowN t i := (ln_lt (by omega) (by omega)).mp c_43
          have hi2 : ¬ i + 1 < rsz t := fun g => by have := (row_s ht1 ht9 g).2.2.2.1; omega
          refine lv_aload_n hx hb dX6_init_105 rfl (lv_at hl 0 rfl) ?_
          refine lv_iload_n hx hb dX6_init_106 rfl (lv_at hl 2 rfl) ?_
          refine tpi (x' := nI (rsz t)) (by rw [show rsz t = i + 1 by omega]) ?_
          refine m_putF (ci := 6) (C := RX6) (T := TX6) (N := 2) (v := .int (nI (rsz t))) hx hb hts in_X6 tyX6 tyX6_ok nmX6 hown hK hh hS rfl 1 (by decide) fl_17 (fun _ h => h) rfl hin rfl (ty := tyX6 1) (by decide +kernel) (rfl) (rfl) (Nat.le_of_ble_eq_true rfl) dX6_init_107 (fun M1 H1 locs1 e1 hh => ?_)
          have hN := mu_kp e1 (mp_ne hN hS (by simp)) hN
          have hS := mu_at e1
          have hkp := hkp.put e1 (by simp)
          have hS : M1 h0 = some (.inr (6, [.ref n0, .int (nI (rsz t))])) := hS
          have hM := hh.1
          exact hretv _ _ _ _ _ _ _ hh (⟨rfl, ⟨n0, fr, hS, hN, fun j hj => hfr j (by omega)⟩, hkp⟩) (by decide) (by decide) dX6_init_110 rfl
        · skip
          have hsm : rowN t i ≤ 1000000000000 := (ln_le (by omega) (by omega)).mp c_43
          have hi2 : i + 1 < rsz t := by rcases Nat.lt_or_ge (i + 1) (rsz t) with g | g; exact g; (have e : i = rsz t - 1 := (by omega)); rw [e] at hsm; omega
          have hrs := row_s ht1 ht9 hi2
          refine lv_aload_n hx hb dX6_init_46 rfl (lv_at hl 0 rfl) ?_
          refine m_get (ci := 6) (C := RX6) (T := TX6) (N := 2) (v := .ref n0) hx hb hts in_X6 hown hK hM hS rfl 0 (by decide) fl_11 (fun _ h => h) rfl dX6_init_47 ?_
          refine lv_iload_n hx hb dX6_init_50 rfl (lv_at hl 2 rfl) ?_
          refine lv_iconst (v := 1) hx hb dX6_init_51 (by decide) ?_
          refine lv_isub hx hb dX6_init_52 ?_
          refine m_laldN (k := i) hx hb hK hM hN (nD_succ i) (by omega) (by decide) dX6_init_53 ?_
          refine tpl (x' := lN (rowN t i)) (hfr i (Nat.le_refl _)) ?_
          refine lv_lstore (lv' := [(4, .long (lN (rowN t i))), (0, .ref h0), (1, .int (nI t)), (2, .int (nI (i + 1))), (3, .int (nI mm))]) hx hb dX6_init_54 hl (by decide) rfl (fun ls hl => ?_)
          have j_56 : ∀ (fu : Nat) (mm : Nat) (ls : Array Slot), (mm ≤ i) → (mm = ptrN t i ∨ (mm + 1 = ptrN t i ∧ t * rowN t mm < rowN t i)) → (ptrN t i - mm < fu) → lv_has ls 6 [(0, .ref h0), (1, .int (nI t)), (2, .int (nI (i + 1))), (3, .int (nI mm)), (4, .long (lN (rowN t i)))] → W p l e ({ frames := 1, cells := 1, slots := 240, locals := 20 } : Room) s m args below meth c H locs 1 240 Q (F0 m 56 ls []) := by
            intro fu
            induction fu with
            | zero => intro mm ls hmi hm hm_56 _; exact absurd hm_56 (Nat.not_lt_zero _)
            | succ fu ih_56 =>
              intro mm ls hmi hm hm_56 hl
              have hpm := row_pos ht1 ht9 (i := mm) (by omega)
              have hmb : t * rowN t mm ≤ 9 * 2000000000000 := Nat.mul_le_mul ht9 hpm.2
              refine lv_iload_n hx hb dX6_init_56 rfl (lv_at hl 3 rfl) ?_
              refine lv_iload_n hx hb dX6_init_57 rfl (lv_at hl 2 rfl) ?_
              refine lv_iconst (v := 1) hx hb dX6_init_58 (by decide) ?_
              refine lv_isub hx hb dX6_init_59 ?_
              refine tpi (x' := nI i) (nD_succ i) ?_
              refine bi_ge (tgt := 84) hx hb dX6_init_60 (by decide) (fun c_60 n_60 => ?_) (fun c_60 n_60 => ?_)
              · skip
                have hmm : i ≤ mm := (nI_leI (by omega) (by omega)).mp c_60
                have hm0 : mm = ptrN t i := by rcases hm with g | g; exact g; omega
                refine lv_aload_n hx hb dX6_init_84 rfl (lv_at hl 0 rfl) ?_
                refine m_get (ci := 6) (C := RX6) (T := TX6) (N := 2) (v := .ref n0) hx hb hts in_X6 hown hK hM hS rfl 0 (by decide) fl_11 (fun _ h => h) rfl dX6_init_85 ?_
                refine lv_iload_n hx hb dX6_init_88 rfl (lv_at hl 2 rfl) ?_
                refine lv_lload hx hb dX6_init_89 (lv_at hl 4 rfl) ?_
                refine lv_aload_n hx hb dX6_init_91 rfl (lv_at hl 0 rfl) ?_
                refine m_get (ci := 6) (C := RX6) (T := TX6) (N := 2) (v := .ref n0) hx hb hts in_X6 hown hK hM hS rfl 0 (by decide) fl_11 (fun _ h => h) rfl dX6_init_92 ?_
                refine lv_iload_n hx hb dX6_init_95 rfl (lv_at hl 3 rfl) ?_
                refine m_laldN (k := mm) hx hb hK hM hN (rfl) (by omega) (by decide) dX6_init_96 ?_
                refine tpl (x' := lN (rowN t mm)) (hfr mm (by omega)) ?_
                refine lv_ladd hx hb dX6_init_97 ?_
                refine tpl (x' := lN (rowN t (i + 1))) (by rw [lN_add, hrs.1, hm0]) ?_
                refine m_lastN (k := i + 1) hx hb hK hh hN (rfl) (by omega) (by decide) dX6_init_98 (fun M1 H1 locs1 e1 hh => ?_)
                have hS := mu_kp e1 (mp_ne hS hN (by simp)) hS
                have hN := mu_at e1
                have hkp := hkp.putN e1 hf_n0
                have hN : M1 n0 = some (.inl (cA 0, 240, .inr (.inl (vp_updL fr (i + 1) (lN (rowN t (i + 1))))))) := hN
                have hM := hh.1
                refine lv_iinc (v := nI (i + 1 + 1)) (lv' := [(2, .int (nI (i + 1 + 1))), (0, .ref h0), (1, .int (nI t)), (3, .int (nI mm)), (4, .long (lN (rowN t i)))]) hx hb dX6_init_99 hl (k := 2) rfl (nI_up _) (by decide) rfl (fun ls hl => ?_)
                refine lv_goto (tgt := 24) hx hb dX6_init_102 (by decide) ?_
                exact ih_24 (i + 1) mm ((vp_updL fr (i + 1) (lN (rowN t (i + 1))))) _ _ _ _ hi2 (by omega) (fun h3 => by rw [hm0]; rcases row_p ht1 ht9 (i := i) (by omega) with g | g; exact Or.inl g.symm; exact Or.inr ⟨g.1.symm, g.2⟩) (fun j hj => by by_cases e : j = i + 1; rw [e, pk_uLs]; rw [pk_uLn e]; exact hfr j (by omega)) hh hkp hS hN (by omega) (lv_sub hl [1, 2, 0, 3] rfl)
              · skip
                have hmm : mm < i := (nI_ltI (by omega) (by omega)).mp c_60
                refine lv_iload_n hx hb dX6_init_63 rfl (lv_at hl 1 rfl) ?_
                refine lv_i2l hx hb dX6_init_64 rfl ?_
                refine tpl (x' := lN t) (nI_l (by omega)) ?_
                refine lv_aload_n hx hb dX6_init_65 rfl (lv_at hl 0 rfl) ?_
                refine m_get (ci := 6) (C := RX6) (T := TX6) (N := 2) (v := .ref n0) hx hb hts in_X6 hown hK hM hS rfl 0 (by decide) fl_11 (fun _ h => h) rfl dX6_init_66 ?_
                refine lv_iload_n hx hb dX6_init_69 rfl (lv_at hl 3 rfl) ?_
                refine m_laldN (k := mm) hx hb hK hM hN (rfl) (by omega) (by decide) dX6_init_70 ?_
                refine tpl (x' := lN (rowN t mm)) (hfr mm (by omega)) ?_
                refine lv_lmul hx hb dX6_init_71 ?_
                refine tpl (x' := lN (t * rowN t mm)) (lN_mul _ _) ?_
                refine lv_lload hx hb dX6_init_72 (lv_at hl 4 rfl) ?_
                refine bl_ge (tgt := 84) hx hb dX6_init_74 dX6_init_75 (by decide) (fun c_75 n_75 => ?_) (fun c_75 n_75 => ?_)
                · skip
                  have hge : rowN t i ≤ t * rowN t mm := (ln_le (by omega) (by omega)).mp c_75
                  have hm0 : mm = ptrN t i := by rcases hm with g | g; exact g; omega
                  refine lv_aload_n hx hb dX6_init_84 rfl (lv_at hl 0 rfl) ?_
                  refine m_get (ci := 6) (C := RX6) (T := TX6) (N := 2) (v := .ref n0) hx hb hts in_X6 hown hK hM hS rfl 0 (by decide) fl_11 (fun _ h => h) rfl dX6_init_85 ?_
                  refine lv_iload_n hx hb dX6_init_88 rfl (lv_at hl 2 rfl) ?_
                  refine lv_lload hx hb dX6_init_89 (lv_at hl 4 rfl) ?_
                  refine lv_aload_n hx hb dX6_init_91 rfl (lv_at hl 0 rfl) ?_
                  refine m_get (ci := 6) (C := RX6) (T := TX6) (N := 2) (v := .ref n0) hx hb hts in_X6 hown hK hM hS rfl 0 (by decide) fl_11 (fun _ h => h) rfl dX6_init_92 ?_
                  refine lv_iload_n hx hb dX6_init_95 rfl (lv_at hl 3 rfl) ?_
                  refine m_laldN (k := mm) hx hb hK hM hN (rfl) (by omega) (by decide) dX6_init_96 ?_
                  refine tpl (x' := lN (rowN t mm)) (hfr mm (by omega)) ?_
                  refine lv_ladd hx hb dX6_init_97 ?_
                  refine tpl (x' := lN (rowN t (i + 1))) (by rw [lN_add, hrs.1, hm0]) ?_
                  refine m_lastN (k := i + 1) hx hb hK hh hN (rfl) (by omega) (by decide) dX6_init_98 (fun M1 H1 locs1 e1 hh => ?_)
                  have hS := mu_kp e1 (mp_ne hS hN (by simp)) hS
                  have hN := mu_at e1
                  have hkp := hkp.putN e1 hf_n0
                  have hN : M1 n0 = some (.inl (cA 0, 240, .inr (.inl (vp_updL fr (i + 1) (lN (rowN t (i + 1))))))) := hN
                  have hM := hh.1
                  refine lv_iinc (v := nI (i + 1 + 1)) (lv' := [(2, .int (nI (i + 1 + 1))), (0, .ref h0), (1, .int (nI t)), (3, .int (nI mm)), (4, .long (lN (rowN t i)))]) hx hb dX6_init_99 hl (k := 2) rfl (nI_up _) (by decide) rfl (fun ls hl => ?_)
                  refine lv_goto (tgt := 24) hx hb dX6_init_102 (by decide) ?_
                  exact ih_24 (i + 1) mm ((vp_updL fr (i + 1) (lN (rowN t (i + 1))))) _ _ _ _ hi2 (by omega) (fun h3 => by rw [hm0]; rcases row_p ht1 ht9 (i := i) (by omega) with g | g; exact Or.inl g.symm; exact Or.inr ⟨g.1.symm, g.2⟩) (fun j hj => by by_cases e : j = i + 1; rw [e, pk_uLs]; rw [pk_uLn e]; exact hfr j (by omega)) hh hkp hS hN (by omega) (lv_sub hl [1, 2, 0, 3] rfl)
                · skip
                  have hlt : t * rowN t mm < rowN t i := (ln_lt (by omega) (by omega)).mp c_75
                  have hm1 : mm + 1 = ptrN t i := by rcases hm with g | g; (rw [g] at hlt; omega); exact g.1
                  refine lv_iinc (v := nI (mm + 1)) (lv' := [(3, .int (nI (mm + 1))), (0, .ref h0), (1, .int (nI t)), (2, .int (nI (i + 1))), (4, .long (lN (rowN t i)))]) hx hb dX6_init_78 hl (k := 3) rfl (nI_up mm) (by decide) rfl (fun ls hl => ?_)
                  refine lv_goto (tgt := 56) hx hb dX6_init_81 (by decide) ?_
                  exact ih_56 (mm + 1) _ (by omega) (Or.inl hm1) (by omega) (lv_sub hl [1, 2, 3, 0, 4] rfl)
          exact j_56 (ptrN t i + 1) mm _ hmi (hm hi2) (by omega) (lv_sub hl [1, 2, 3, 4, 0] rfl)
  exact j_24 (241) 0 0 ((vp_updL (fun _ => (0 : Int64)) 0 (lN (rowN t 0)))) _ _ _ _ (by omega) (Nat.le_refl _) (fun _ => Or.inl hz2.symm) (fun j hj => by rw [show j = 0 by omega, pk_uLs]) hh hkp hS hN (by omega) (lv_sub hl [2, 3, 1, 0] rfl)
set_option maxHeartbeats 1000000 in
set_option maxRecDepth 100000 in
theorem k_X7_init (l : Launch) (D : va_G) (cA : Nat → ClassId) (M : mp) (tg : Nat) (hT : M tg = some (.inr (7, [.null]))) : MC l D cA yX7_init wsX7_init 1 20 1 10 [.ref tg] M (fun r M' => r = none ∧ (∃ sm, M' tg = some (.inr (7, [.ref sm])) ∧ smW cA M' sm ∧ M sm = none) ∧ kpL M M' [tg]) := by
  refine MC.of (cc := cX7_init) (maxL := 1) (ret := none) (by decide) rfl (Nat.le_of_ble_eq_true rfl) ?_
  intro p e s m args below meth c Q ls B hh hl hretv hreti hretz hretl hreta
  obtain ⟨hx, hb, hown, hts, hml, hK, hin⟩ := B
  have hM := hh.1
  have hM_0 := hh.1
  have hkp : kpL M M [tg] := kpL.rf M _
  have hown : s.vm.findClass RX7 = some m.cls := hown
  have hl : lv_has ls 1 [(0, .ref tg)] := hl
  have ob_l := hts (.methodLink RX7 3 objectInit) (by decide +kernel)
  have ob_i := hts (.instanceMethod objectInit) (by decide +kernel)
  have ob_c := hts (.code objectInit ⟨#[0xb1]⟩ 1 none) (by decide +kernel)
  have cl_9 := hts (.classLink RX7 9 RX6) (by decide +kernel)
  have in_X7 : ∀ w ∈ wsX70, w ∈ wsX7_init := by decide +kernel
  have fl_11 := hts (.fieldLink RX7 11 "GoldHeaps$TimesGame" "sumsMade" "[LGoldHeaps$Sums;") (by decide +kernel)
  refine lv_aload_n hx hb dX7_init_0 rfl (lv_at hl 0 rfl) ?_
  refine W.objInit hx hb hown ob_l ob_i ob_c rfl (by rw [hml]; exact hl.1) rfl dX7_init_1 (Nat.le_of_ble_eq_true rfl) (Nat.le_of_ble_eq_true rfl) ?_
  refine W.eq (g2 := F0 m 4 ls []) rfl ?_
  refine lv_aload_n hx hb dX7_init_4 rfl (lv_at hl 0 rfl) ?_
  refine lv_bipush (v := 10) hx hb dX7_init_5 (by decide) ?_
  have hho := hh
  refine m_newq 3 rfl hx hb hown cl_9 hK.2.2.1 hK hh (N' := 10) (by decide +kernel) (by decide +kernel) (by decide +kernel) (Nat.le_of_ble_eq_true rfl) (Nat.le_of_ble_eq_true rfl) dX7_init_7 (fun sm M1 H1 hq e1 hh => ?_)
  have hkp := hkp.new hM hq e1
  have hf_sm : M sm = none := by rw [hq]; exact hho.new0 hM_0
  have hT := mu_kp e1 (by rw [hq]; exact hM.ne hT) hT
  have hSM := mu_at e1
  have hSM : M1 sm = some (.inl (cA 3, 10, .inr (.inr (.inr (.inr (fun _ => none)))))) := hSM
  have hM := hh.1
  refine W.widen (k := 1) (n := 10) (by decide) (by decide) ?_
  refine m_putF (ci := 7) (C := RX7) (T := TX7) (N := 1) (v := .ref sm) hx hb hts in_X7 tyX7 tyX7_ok nmX7 hown hK hh hT rfl 0 (by decide) fl_11 (fun _ h => h) rfl hin rfl (ty := tyX7 0) (by decide +kernel) (rfl) (rfl) (Nat.le_of_ble_eq_true rfl) dX7_init_10 (fun M1 H1 locs1 e1 hh => ?_)
  have hSM := mu_kp e1 (mp_ne hSM hT (by simp)) hSM
  have hT := mu_at e1
  have hkp := hkp.put e1 (by simp)
  have hT : M1 tg = some (.inr (7, [.ref sm])) := hT
  have hM := hh.1
  exact hretv _ _ _ _ _ _ _ hh (⟨rfl, ⟨sm, hT, ⟨fun _ => none, hSM, fun t a _ _ h => by cases h⟩, hf_sm⟩, hkp⟩) (by decide) (by decide) dX7_init_13 rfl
set_option maxHeartbeats 1000000 in
set_option maxRecDepth 100000 in
theorem k_X7_sumsBy (l : Launch) (D : va_G) (cA : Nat → ClassId) (M : mp) (tg sm t : Nat) (hT : M tg = some (.inr (7, [.ref sm]))) (hW0 : smW cA M sm) (ht1 : 1 ≤ t) (ht9 : t ≤ 9) : MC l D cA yX7_sumsBy wsX7_sumsBy 2 45 3 242 [.ref tg, .int (nI t)] M (fun r M' => (∃ a, r = some (.ref a) ∧ sumW cA M' t a) ∧ smW cA M' sm ∧ kpL M M' [sm]) := by
  refine MC.of (cc := cX7_sumsBy) (maxL := 4) (ret := (some (.object "GoldHeaps$Sums"))) (by decide) rfl (Nat.le_of_ble_eq_true rfl) ?_
  intro p e s m args below meth c Q ls B hh hl hretv hreti hretz hretl hreta
  obtain ⟨hx, hb, hown, hts, hml, hK, hin⟩ := B
  have hM := hh.1
  have hM_0 := hh.1
  have hkp : kpL M M [sm] := kpL.rf M _
  have hown : s.vm.findClass RX7 = some m.cls := hown
  have hl : lv_has ls 4 [(0, .ref tg), (1, .int (nI t))] := hl
  have in_X7 : ∀ w ∈ wsX70, w ∈ wsX7_sumsBy := by decide +kernel
  have fl_11 := hts (.fieldLink RX7 11 "GoldHeaps$TimesGame" "sumsMade" "[LGoldHeaps$Sums;") (by decide +kernel)
  have cl_9 := hts (.classLink RX7 9 RX6) (by decide +kernel)
  have ins_X6 := hts (.instantiable RX6 2) (by decide +kernel)
  have ini_X6 := hts (.initialized RX6) (by decide +kernel)
  have in_X6 : ∀ w ∈ wsX60, w ∈ wsX7_sumsBy := by decide +kernel
  have im_X6_init := hts (.instanceMethod yX6_init) (by decide +kernel)
  have ml_17 := hts (.methodLink RX7 17 yX6_init) (by decide +kernel)
  obtain ⟨fs, hSM, hfs⟩ := hW0
  refine lv_iload_n hx hb dX7_sumsBy_0 rfl (lv_at hl 1 rfl) ?_
  refine lv_iconst (v := 1) hx hb dX7_sumsBy_1 (by decide) ?_
  refine bi_lt (tgt := 15) hx hb dX7_sumsBy_2 (by decide) (fun c_2 n_2 => ?_) (fun c_2 n_2 => ?_)
  · exact absurd ((nI_ltI (a := t) (b := 1) (by omega) (by decide)).mp c_2) (by omega)
  · skip
    refine lv_iload_n hx hb dX7_sumsBy_5 rfl (lv_at hl 1 rfl) ?_
    refine lv_bipush (v := 9) hx hb dX7_sumsBy_6 (by decide) ?_
    refine bi_gt (tgt := 15) hx hb dX7_sumsBy_8 (by decide) (fun c_8 n_8 => ?_) (fun c_8 n_8 => ?_)
    · exact absurd ((nI_ltI (a := 9) (b := t) (by decide) (by omega)).mp c_8) (by omega)
    · skip
      refine lv_iload_n hx hb dX7_sumsBy_11 rfl (lv_at hl 1 rfl) ?_
      refine lv_goto (tgt := 16) hx hb dX7_sumsBy_12 (by decide) ?_
      refine lv_istore_n (lv' := [(2, .int (nI t)), (0, .ref tg), (1, .int (nI t))]) hx hb dX7_sumsBy_16 rfl hl (by decide) rfl (fun ls hl => ?_)
      refine lv_aload_n hx hb dX7_sumsBy_17 rfl (lv_at hl 1 rfl) ?_
      refine m_get (ci := 7) (C := RX7) (T := TX7) (N := 1) (v := .ref sm) hx hb hts in_X7 hown hK hM hT rfl 0 (by decide) fl_11 (fun _ h => h) rfl dX7_sumsBy_18 ?_
      refine lv_iload_n hx hb dX7_sumsBy_21 rfl (lv_at hl 0 rfl) ?_
      refine m_aldSN (k := t) hx hb hK hM hSM (rfl) (by omega) (by decide) dX7_sumsBy_22 ?_
      cases hft : fs t with
      | none =>
        refine tpv (x' := .null) rfl ?_
        refine lv_astore_nN (lv' := [(3, .null), (2, .int (nI t)), (0, .ref tg), (1, .int (nI t))]) hx hb dX7_sumsBy_23 rfl hl (by decide) rfl (fun ls hl => ?_)
        refine lv_aload_nN hx hb dX7_sumsBy_24 rfl (lv_at hl 0 rfl) ?_
        refine lv_ifnonnullN hx hb dX7_sumsBy_25 ?_
        have hM0 := hM
        have hT0 := hT
        have hSM0 := hSM
        have hho := hh
        refine m_new (ci := 6) (fs := [.null, .int 0]) (C := RX6) (T := TX6) (N := 2) hx hb hts in_X6 tyX6 tyX6_ok hown cl_9 ins_X6 ini_X6 hK hh rfl (fun j hj => by rcases (show j = 0 ∨ j = 1 by omega) with rfl | rfl <;> rfl) (by decide) (by decide) dX7_sumsBy_28 (fun sa M1 H1 hq e1 hh => ?_)
        have hkp := hkp.new hM hq e1
        have hf_sa : M sa = none := by rw [hq]; exact hho.new0 hM_0
        have hT := mu_kp e1 (by rw [hq]; exact hM.ne hT) hT
        have hSM := mu_kp e1 (by rw [hq]; exact hM.ne hSM) hSM
        have hS := mu_at e1
        have hS : M1 sa = some (.inr (6, [.null, .int 0])) := hS
        have hM := hh.1
        refine W.widen (k := 1) (n := 2) (by decide) (by decide) ?_
        refine lv_dup hx hb dX7_sumsBy_31 rfl ?_
        refine lv_iload_n hx hb dX7_sumsBy_32 rfl (lv_at hl 1 rfl) ?_
        refine cmI (As := [.int (nI t)]) (rest := [.ref sa]) (k_X6_init l D cA _ sa t hS ht1 ht9) ⟨hx, hb, hml, hown, hts⟩ (cwI 1 hts gX7_sumsBy_X6_init rfl rfl rfl ini_X6 ml_17 im_X6_init rfl (by decide +kernel) ⟨by decide, by decide⟩) hK hh rfl hl.1 rfl (Nat.le_of_ble_eq_true rfl) dX7_sumsBy_33 ⟨by decide, by decide⟩ (fun v9 M1 H1 locs1 hpost hh hz9 hk9 hn9 => ?_)
        obtain ⟨rfl, hsw, hkc⟩ := hpost
        obtain ⟨n0, fr, hS1, hN1, hfr⟩ := hsw
        have hkp : kpL M M1 [sm] := fun q e9 h9 h8 => hkc q e9 (hkp q e9 h9 h8) (ni1 (by rw [hq]; exact hM0.ne h9))
        have hT : M1 tg = some (.inr (7, [.ref sm])) := hkc _ _ hT (ni1 (by rw [hq]; exact hM0.ne hT0))
        have hSM : M1 sm = some (.inl (cA 3, 10, .inr (.inr (.inr (.inr fs))))) := hkc _ _ hSM (ni1 (by rw [hq]; exact hM0.ne hSM0))
        have hS : M1 sa = some (.inr (6, [.ref n0, .int (nI (rsz t))])) := hS1
        have hN : M1 n0 = some (.inl (cA 0, 240, .inr (.inl fr))) := hN1
        have hM := hh.1
        refine W.widen (k := 2) (n := 242) (by decide) (by decide) ?_
        refine W.eq (g2 := F0 m 36 ls [.ref sa]) rfl ?_
        refine lv_astore_n (lv' := [(3, .ref sa), (2, .int (nI t)), (0, .ref tg), (1, .int (nI t))]) hx hb dX7_sumsBy_36 rfl hl (by decide) rfl (fun ls hl => ?_)
        refine lv_aload_n hx hb dX7_sumsBy_37 rfl (lv_at hl 2 rfl) ?_
        refine m_get (ci := 7) (C := RX7) (T := TX7) (N := 1) (v := .ref sm) hx hb hts in_X7 hown hK hM hT rfl 0 (by decide) fl_11 (fun _ h => h) rfl dX7_sumsBy_38 ?_
        refine lv_iload_n hx hb dX7_sumsBy_41 rfl (lv_at hl 1 rfl) ?_
        refine lv_aload_n hx hb dX7_sumsBy_42 rfl (lv_at hl 0 rfl) ?_
        refine m_astqN 3 (k := t) rfl hx hb hK hh hSM hS rfl (rfl) (by omega) (by decide) dX7_sumsBy_43 (fun M1 H1 locs1 e1 hh => ?_)
        have hT := mu_kp e1 (mp_ne hT hSM (by simp)) hT
        have hS := mu_kp e1 (mp_ne hS hSM (by simp)) hS
        have hN := mu_kp e1 (mp_ne hN hSM (by simp)) hN
        have hSM := mu_at e1
        have hkp := hkp.put e1 (by simp)
        have hSM : M1 sm = some (.inl (cA 3, 10, .inr (.inr (.inr (.inr (va_up fs t (some sa))))))) := hSM
        have hM := hh.1
        refine lv_aload_n hx hb dX7_sumsBy_44 rfl (lv_at hl 0 rfl) ?_
        exact hreta _ _ _ _ _ _ _ _ _ hh (⟨⟨sa, rfl, n0, fr, hS, hN, hfr⟩, ⟨_, hSM, fun t2 a h1 h2 h3 => by by_cases e9 : t2 = t; (rw [e9, va_up_self] at h3; cases h3; rw [e9]; exact ⟨n0, fr, hS, hN, hfr⟩); (rw [va_up_ne _ _ e9] at h3; exact (hfs t2 a h1 h2 h3).kp (kpI.of1 hkp hSM0 (fun z => z)))⟩, hkp⟩) (by decide) (by decide) dX7_sumsBy_45 rfl
      | some sa =>
        refine tpv (x' := .ref sa) rfl ?_
        refine lv_astore_n (lv' := [(3, .ref sa), (2, .int (nI t)), (0, .ref tg), (1, .int (nI t))]) hx hb dX7_sumsBy_23 rfl hl (by decide) rfl (fun ls hl => ?_)
        refine lv_aload_n hx hb dX7_sumsBy_24 rfl (lv_at hl 0 rfl) ?_
        refine lv_ifnonnull (tgt := 44) hx hb dX7_sumsBy_25 (by decide) ?_
        refine lv_aload_n hx hb dX7_sumsBy_44 rfl (lv_at hl 0 rfl) ?_
        exact hreta _ _ _ _ _ _ _ _ _ hh (⟨⟨sa, rfl, hfs t sa ht1 ht9 hft⟩, ⟨fs, hSM, hfs⟩, hkp⟩) (by decide) (by decide) dX7_sumsBy_45 rfl
