theorem kpL.callN {M0 M M1 : mp} {L : List Nat} {a : Nat} (h : kpL M0 M L) (h2 : kpL M M1 [a]) (ha : M0 a = none) : kpL M0 M1 L := fun q x hq hn => h2 q x (h q x hq hn) (ni1 (fun z => by rw [z, ha] at hq; cases hq))
theorem nI_bN (k : Nat) (b : Bool) : nI k + bI b = nI (k + bN b) := by cases b; exact nI_add k 0; exact nI_add k 1
theorem bN_inj {a b : Bool} (h : bN a = bN b) : a = b := by cases a <;> cases b <;> first | rfl | exact absurd h (by decide)
set_option maxHeartbeats 1000000 in
set_option maxRecDepth 100000 in
theorem k_X3_init0 (l : Launch) (D : va_G) (cA : Nat → ClassId) (M : mp) (lt : Nat) (mi : Bool) (hS : M lt = some (.inr (3, [.int 0, .null]))) : MC l D cA yX3_init wsX3_init 2 60 1 121 [.ref lt, .int 0, .int (bI mi)] M (fun r M' => r = none ∧ tab2 cA M' 0 mi lt ∧ kpL M M' [lt]) := by
  refine MC.of (cc := cX3_init) (maxL := 3) (ret := none) (by decide) rfl (Nat.le_of_ble_eq_true rfl) ?_
  intro p e s m args below meth c Q ls B hh hl hretv hreti hretz hretl hreta
  obtain ⟨hx, hb, hown, hts, hml, hK, hin⟩ := B
  have hM := hh.1
  have hM_0 := hh.1
  have hkp : kpL M M [lt] := kpL.rf M _
  have hown : s.vm.findClass RX3 = some m.cls := hown
  have hl : lv_has ls 3 [(0, .ref lt), (1, .int 0), (2, .int (bI mi))] := hl
  have ob_l := hts (.methodLink RX3 3 objectInit) (by decide +kernel)
  have ob_i := hts (.instanceMethod objectInit) (by decide +kernel)
  have ob_c := hts (.code objectInit ⟨#[0xb1]⟩ 1 none) (by decide +kernel)
  have in_X3 : ∀ w ∈ wsX30, w ∈ wsX3_init := by decide +kernel
  have fl_9 := hts (.fieldLink RX3 9 "GoldHeaps$LostTable" "ofThree" "Z") (by decide +kernel)
  have ac_long := hts (.arrayClass .long) (by decide +kernel)
  have fl_15 := hts (.fieldLink RX3 15 "GoldHeaps$LostTable" "lines" "[J") (by decide +kernel)
  refine lv_aload_n hx hb dX3_init_0 rfl (lv_at hl 0 rfl) ?_
  refine W.objInit hx hb hown ob_l ob_i ob_c rfl (by rw [hml]; exact hl.1) rfl dX3_init_1 (Nat.le_of_ble_eq_true rfl) (Nat.le_of_ble_eq_true rfl) ?_
  refine W.eq (g2 := F0 m 4 ls []) rfl ?_
  refine lv_aload_n hx hb dX3_init_4 rfl (lv_at hl 0 rfl) ?_
  refine lv_iload_n hx hb dX3_init_5 rfl (lv_at hl 1 rfl) ?_
  refine lv_iconst (v := 3) hx hb dX3_init_6 (by decide) ?_
  refine bi_ne (tgt := 14) hx hb dX3_init_7 (by decide) (fun c_7 n_7 => ?_) (fun c_7 n_7 => ?_)
  · skip
    refine lv_iconst (v := 0) hx hb dX3_init_14 (by decide) ?_
    refine m_putF (ci := 3) (C := RX3) (T := TX3) (N := 2) (v := .int 0) hx hb hts in_X3 tyX3 tyX3_ok nmX3 hown hK hh hS rfl 0 (by decide) fl_9 (fun _ h => h) rfl hin rfl (ty := tyX3 0) (by decide +kernel) (rfl) (rfl) (Nat.le_of_ble_eq_true rfl) dX3_init_15 (fun M1 H1 locs1 e1 hh => ?_)
    have hS := mu_at e1
    have hkp := hkp.put e1 (by simp)
    have hS : M1 lt = some (.inr (3, [.int 0, .null])) := hS
    have hM := hh.1
    refine lv_aload_n hx hb dX3_init_18 rfl (lv_at hl 0 rfl) ?_
    refine lv_aload_n hx hb dX3_init_19 rfl (lv_at hl 0 rfl) ?_
    refine m_get (ci := 3) (C := RX3) (T := TX3) (N := 2) (v := .int 0) hx hb hts in_X3 hown hK hM hS rfl 0 (by decide) fl_9 (fun _ h => h) rfl dX3_init_20 ?_
    refine bz_eq (tgt := 31) hx hb dX3_init_23 (by decide) (fun c_23 n_23 => ?_) (fun c_23 n_23 => ?_)
    · skip
      refine lv_bipush (v := 61) hx hb dX3_init_31 (by decide) ?_
      have hho := hh
      refine m_newa 0 rfl (atype := .long) hx hb (ty := .long) ac_long rfl hK hh (N' := 61) (a0 := (61, (.inr (.inl (fun _ => (0 : Int64)))))) (cellJ0 61) (by decide +kernel) (by decide +kernel) (by decide +kernel) (Nat.le_of_ble_eq_true rfl) (Nat.le_of_ble_eq_true rfl) dX3_init_33 (fun la M1 H1 hq e1 hh => ?_)
      have hkp := hkp.new hM hq e1
      have hf_la : M la = none := by rw [hq]; exact hho.new0 hM_0
      have hS := mu_kp e1 (by rw [hq]; exact hM.ne hS) hS
      have hla := mu_at e1
      have hla : M1 la = some (.inl (cA 0, 61, .inr (.inl (fun _ => (0 : Int64))))) := hla
      have hM := hh.1
      refine W.widen (k := 1) (n := 61) (by decide) (by decide) ?_
      refine m_putF (ci := 3) (C := RX3) (T := TX3) (N := 2) (v := .ref la) hx hb hts in_X3 tyX3 tyX3_ok nmX3 hown hK hh hS rfl 1 (by decide) fl_15 (fun _ h => h) rfl hin rfl (ty := tyX3 1) (by decide +kernel) (rfl) (rfl) (Nat.le_of_ble_eq_true rfl) dX3_init_35 (fun M1 H1 locs1 e1 hh => ?_)
      have hla := mu_kp e1 (mp_ne hla hS (by simp)) hla
      have hS := mu_at e1
      have hkp := hkp.put e1 (by simp)
      have hS : M1 lt = some (.inr (3, [.int 0, .ref la])) := hS
      have hM := hh.1
      refine lv_aload_n hx hb dX3_init_38 rfl (lv_at hl 0 rfl) ?_
      refine m_get (ci := 3) (C := RX3) (T := TX3) (N := 2) (v := .int 0) hx hb hts in_X3 hown hK hM hS rfl 0 (by decide) fl_9 (fun _ h => h) rfl dX3_init_39 ?_
      refine bz_eq (tgt := 56) hx hb dX3_init_42 (by decide) (fun c_42 n_42 => ?_) (fun c_42 n_42 => ?_)
      · skip
        refine lv_iload_n hx hb dX3_init_56 rfl (lv_at hl 1 rfl) ?_
        refine lv_iconst (v := 1) hx hb dX3_init_57 (by decide) ?_
        refine bi_ne (tgt := 72) hx hb dX3_init_58 (by decide) (fun c_58 n_58 => ?_) (fun c_58 n_58 => ?_)
        · skip
          refine lv_aload_n hx hb dX3_init_72 rfl (lv_at hl 0 rfl) ?_
          refine m_get (ci := 3) (C := RX3) (T := TX3) (N := 2) (v := .ref la) hx hb hts in_X3 hown hK hM hS rfl 1 (by decide) fl_15 (fun _ h => h) rfl dX3_init_73 ?_
          refine lv_iload_n hx hb dX3_init_76 rfl (lv_at hl 2 rfl) ?_
          refine cmS (As := [.ref la, .int (bI mi)]) (rest := []) (k_X3_fillShares l D cA _ la mi _ hla (fun _ => rfl)) ⟨hx, hb, hml, hown, hts⟩ (va_cwS 2 hts gX3_init_X3_fillShares rfl rfl rfl (by decide +kernel) ⟨by decide, by decide⟩) hK hh rfl hl.1 rfl (Nat.le_of_ble_eq_true rfl) dX3_init_77 ⟨by decide, by decide⟩ (fun v9 M1 H1 locs1 hpost hh hz9 hk9 hn9 => ?_)
          obtain ⟨rfl, ⟨f, hla1, hf⟩, hkc⟩ := hpost
          have hkp := hkp.callN hkc hf_la
          have hS : M1 lt = some (.inr (3, [.int 0, .ref la])) := hkc _ _ hS (ni1 (mp_ne hS hla (by simp)))
          have hla : M1 la = some (.inl (cA 0, 61, .inr (.inl f))) := hla1
          have hM := hh.1
          refine W.eq (g2 := F0 m 80 ls []) rfl ?_
          exact hretv _ _ _ _ _ _ _ hh (⟨rfl, ⟨la, f, hS, hla, hf⟩, hkp⟩) (by decide) (by decide) dX3_init_80 rfl
        · exact absurd c_58 (by decide)
      · exact absurd rfl c_42
    · exact absurd rfl c_23
  · exact absurd c_7 (by decide)
set_option maxHeartbeats 1000000 in
set_option maxRecDepth 100000 in
theorem k_X3_init1 (l : Launch) (D : va_G) (cA : Nat → ClassId) (M : mp) (lt : Nat) (mi : Bool) (hS : M lt = some (.inr (3, [.int 0, .null]))) : MC l D cA yX3_init wsX3_init 2 60 1 121 [.ref lt, .int 1, .int (bI mi)] M (fun r M' => r = none ∧ tab2 cA M' 1 mi lt ∧ kpL M M' [lt]) := by
  refine MC.of (cc := cX3_init) (maxL := 3) (ret := none) (by decide) rfl (Nat.le_of_ble_eq_true rfl) ?_
  intro p e s m args below meth c Q ls B hh hl hretv hreti hretz hretl hreta
  obtain ⟨hx, hb, hown, hts, hml, hK, hin⟩ := B
  have hM := hh.1
  have hM_0 := hh.1
  have hkp : kpL M M [lt] := kpL.rf M _
  have hown : s.vm.findClass RX3 = some m.cls := hown
  have hl : lv_has ls 3 [(0, .ref lt), (1, .int 1), (2, .int (bI mi))] := hl
  have ob_l := hts (.methodLink RX3 3 objectInit) (by decide +kernel)
  have ob_i := hts (.instanceMethod objectInit) (by decide +kernel)
  have ob_c := hts (.code objectInit ⟨#[0xb1]⟩ 1 none) (by decide +kernel)
  have in_X3 : ∀ w ∈ wsX30, w ∈ wsX3_init := by decide +kernel
  have fl_9 := hts (.fieldLink RX3 9 "GoldHeaps$LostTable" "ofThree" "Z") (by decide +kernel)
  have ac_long := hts (.arrayClass .long) (by decide +kernel)
  have fl_15 := hts (.fieldLink RX3 15 "GoldHeaps$LostTable" "lines" "[J") (by decide +kernel)
  refine lv_aload_n hx hb dX3_init_0 rfl (lv_at hl 0 rfl) ?_
  refine W.objInit hx hb hown ob_l ob_i ob_c rfl (by rw [hml]; exact hl.1) rfl dX3_init_1 (Nat.le_of_ble_eq_true rfl) (Nat.le_of_ble_eq_true rfl) ?_
  refine W.eq (g2 := F0 m 4 ls []) rfl ?_
  refine lv_aload_n hx hb dX3_init_4 rfl (lv_at hl 0 rfl) ?_
  refine lv_iload_n hx hb dX3_init_5 rfl (lv_at hl 1 rfl) ?_
  refine lv_iconst (v := 3) hx hb dX3_init_6 (by decide) ?_
  refine bi_ne (tgt := 14) hx hb dX3_init_7 (by decide) (fun c_7 n_7 => ?_) (fun c_7 n_7 => ?_)
  · skip
    refine lv_iconst (v := 0) hx hb dX3_init_14 (by decide) ?_
    refine m_putF (ci := 3) (C := RX3) (T := TX3) (N := 2) (v := .int 0) hx hb hts in_X3 tyX3 tyX3_ok nmX3 hown hK hh hS rfl 0 (by decide) fl_9 (fun _ h => h) rfl hin rfl (ty := tyX3 0) (by decide +kernel) (rfl) (rfl) (Nat.le_of_ble_eq_true rfl) dX3_init_15 (fun M1 H1 locs1 e1 hh => ?_)
    have hS := mu_at e1
    have hkp := hkp.put e1 (by simp)
    have hS : M1 lt = some (.inr (3, [.int 0, .null])) := hS
    have hM := hh.1
    refine lv_aload_n hx hb dX3_init_18 rfl (lv_at hl 0 rfl) ?_
    refine lv_aload_n hx hb dX3_init_19 rfl (lv_at hl 0 rfl) ?_
    refine m_get (ci := 3) (C := RX3) (T := TX3) (N := 2) (v := .int 0) hx hb hts in_X3 hown hK hM hS rfl 0 (by decide) fl_9 (fun _ h => h) rfl dX3_init_20 ?_
    refine bz_eq (tgt := 31) hx hb dX3_init_23 (by decide) (fun c_23 n_23 => ?_) (fun c_23 n_23 => ?_)
    · skip
      refine lv_bipush (v := 61) hx hb dX3_init_31 (by decide) ?_
      have hho := hh
      refine m_newa 0 rfl (atype := .long) hx hb (ty := .long) ac_long rfl hK hh (N' := 61) (a0 := (61, (.inr (.inl (fun _ => (0 : Int64)))))) (cellJ0 61) (by decide +kernel) (by decide +kernel) (by decide +kernel) (Nat.le_of_ble_eq_true rfl) (Nat.le_of_ble_eq_true rfl) dX3_init_33 (fun la M1 H1 hq e1 hh => ?_)
      have hkp := hkp.new hM hq e1
      have hf_la : M la = none := by rw [hq]; exact hho.new0 hM_0
      have hS := mu_kp e1 (by rw [hq]; exact hM.ne hS) hS
      have hla := mu_at e1
      have hla : M1 la = some (.inl (cA 0, 61, .inr (.inl (fun _ => (0 : Int64))))) := hla
      have hM := hh.1
      refine W.widen (k := 1) (n := 61) (by decide) (by decide) ?_
      refine m_putF (ci := 3) (C := RX3) (T := TX3) (N := 2) (v := .ref la) hx hb hts in_X3 tyX3 tyX3_ok nmX3 hown hK hh hS rfl 1 (by decide) fl_15 (fun _ h => h) rfl hin rfl (ty := tyX3 1) (by decide +kernel) (rfl) (rfl) (Nat.le_of_ble_eq_true rfl) dX3_init_35 (fun M1 H1 locs1 e1 hh => ?_)
      have hla := mu_kp e1 (mp_ne hla hS (by simp)) hla
      have hS := mu_at e1
      have hkp := hkp.put e1 (by simp)
      have hS : M1 lt = some (.inr (3, [.int 0, .ref la])) := hS
      have hM := hh.1
      refine lv_aload_n hx hb dX3_init_38 rfl (lv_at hl 0 rfl) ?_
      refine m_get (ci := 3) (C := RX3) (T := TX3) (N := 2) (v := .int 0) hx hb hts in_X3 hown hK hM hS rfl 0 (by decide) fl_9 (fun _ h => h) rfl dX3_init_39 ?_
      refine bz_eq (tgt := 56) hx hb dX3_init_42 (by decide) (fun c_42 n_42 => ?_) (fun c_42 n_42 => ?_)
      · skip
        refine lv_iload_n hx hb dX3_init_56 rfl (lv_at hl 1 rfl) ?_
        refine lv_iconst (v := 1) hx hb dX3_init_57 (by decide) ?_
        refine bi_ne (tgt := 72) hx hb dX3_init_58 (by decide) (fun c_58 n_58 => ?_) (fun c_58 n_58 => ?_)
        · exact absurd rfl c_58
        · skip
          refine lv_aload_n hx hb dX3_init_61 rfl (lv_at hl 0 rfl) ?_
          refine m_get (ci := 3) (C := RX3) (T := TX3) (N := 2) (v := .ref la) hx hb hts in_X3 hown hK hM hS rfl 1 (by decide) fl_15 (fun _ h => h) rfl dX3_init_62 ?_
          refine lv_iload_n hx hb dX3_init_65 rfl (lv_at hl 2 rfl) ?_
          refine cmS (As := [.ref la, .int (bI mi)]) (rest := []) (k_X3_fillBoth l D cA _ la mi _ hla) ⟨hx, hb, hml, hown, hts⟩ (va_cwS 2 hts gX3_init_X3_fillBoth rfl rfl rfl (by decide +kernel) ⟨by decide, by decide⟩) hK hh rfl hl.1 rfl (Nat.le_of_ble_eq_true rfl) dX3_init_66 ⟨by decide, by decide⟩ (fun v9 M1 H1 locs1 hpost hh hz9 hk9 hn9 => ?_)
          obtain ⟨rfl, ⟨f, hla1, hf⟩, hkc⟩ := hpost
          have hkp := hkp.callN hkc hf_la
          have hS : M1 lt = some (.inr (3, [.int 0, .ref la])) := hkc _ _ hS (ni1 (mp_ne hS hla (by simp)))
          have hla : M1 la = some (.inl (cA 0, 61, .inr (.inl f))) := hla1
          have hM := hh.1
          refine W.eq (g2 := F0 m 69 ls []) rfl ?_
          refine lv_goto (tgt := 80) hx hb dX3_init_69 (by decide) ?_
          exact hretv _ _ _ _ _ _ _ hh (⟨rfl, ⟨la, f, hS, hla, hf⟩, hkp⟩) (by decide) (by decide) dX3_init_80 rfl
      · exact absurd rfl c_42
    · exact absurd rfl c_23
  · exact absurd c_7 (by decide)
set_option maxHeartbeats 1000000 in
set_option maxRecDepth 100000 in
theorem k_X3_init3 (l : Launch) (D : va_G) (cA : Nat → ClassId) (M : mp) (lt : Nat) (mi : Bool) (hS : M lt = some (.inr (3, [.int 0, .null]))) : MC l D cA yX3_init wsX3_init 2 60 1 121 [.ref lt, .int 3, .int (bI mi)] M (fun r M' => r = none ∧ tab3 cA M' mi lt ∧ kpL M M' [lt]) := by
  refine MC.of (cc := cX3_init) (maxL := 3) (ret := none) (by decide) rfl (Nat.le_of_ble_eq_true rfl) ?_
  intro p e s m args below meth c Q ls B hh hl hretv hreti hretz hretl hreta
  obtain ⟨hx, hb, hown, hts, hml, hK, hin⟩ := B
  have hM := hh.1
  have hM_0 := hh.1
  have hkp : kpL M M [lt] := kpL.rf M _
  have hown : s.vm.findClass RX3 = some m.cls := hown
  have hl : lv_has ls 3 [(0, .ref lt), (1, .int 3), (2, .int (bI mi))] := hl
  have ob_l := hts (.methodLink RX3 3 objectInit) (by decide +kernel)
  have ob_i := hts (.instanceMethod objectInit) (by decide +kernel)
  have ob_c := hts (.code objectInit ⟨#[0xb1]⟩ 1 none) (by decide +kernel)
  have in_X3 : ∀ w ∈ wsX30, w ∈ wsX3_init := by decide +kernel
  have fl_9 := hts (.fieldLink RX3 9 "GoldHeaps$LostTable" "ofThree" "Z") (by decide +kernel)
  have ac_long := hts (.arrayClass .long) (by decide +kernel)
  have fl_15 := hts (.fieldLink RX3 15 "GoldHeaps$LostTable" "lines" "[J") (by decide +kernel)
  refine lv_aload_n hx hb dX3_init_0 rfl (lv_at hl 0 rfl) ?_
  refine W.objInit hx hb hown ob_l ob_i ob_c rfl (by rw [hml]; exact hl.1) rfl dX3_init_1 (Nat.le_of_ble_eq_true rfl) (Nat.le_of_ble_eq_true rfl) ?_
  refine W.eq (g2 := F0 m 4 ls []) rfl ?_
  refine lv_aload_n hx hb dX3_init_4 rfl (lv_at hl 0 rfl) ?_
  refine lv_iload_n hx hb dX3_init_5 rfl (lv_at hl 1 rfl) ?_
  refine lv_iconst (v := 3) hx hb dX3_init_6 (by decide) ?_
  refine bi_ne (tgt := 14) hx hb dX3_init_7 (by decide) (fun c_7 n_7 => ?_) (fun c_7 n_7 => ?_)
  · exact absurd rfl c_7
  · skip
    refine lv_iconst (v := 1) hx hb dX3_init_10 (by decide) ?_
    refine lv_goto (tgt := 15) hx hb dX3_init_11 (by decide) ?_
    refine m_putF (ci := 3) (C := RX3) (T := TX3) (N := 2) (v := .int 1) hx hb hts in_X3 tyX3 tyX3_ok nmX3 hown hK hh hS rfl 0 (by decide) fl_9 (fun _ h => h) rfl hin rfl (ty := tyX3 0) (by decide +kernel) (rfl) (rfl) (Nat.le_of_ble_eq_true rfl) dX3_init_15 (fun M1 H1 locs1 e1 hh => ?_)
    have hS := mu_at e1
    have hkp := hkp.put e1 (by simp)
    have hS : M1 lt = some (.inr (3, [.int 1, .null])) := hS
    have hM := hh.1
    refine lv_aload_n hx hb dX3_init_18 rfl (lv_at hl 0 rfl) ?_
    refine lv_aload_n hx hb dX3_init_19 rfl (lv_at hl 0 rfl) ?_
    refine m_get (ci := 3) (C := RX3) (T := TX3) (N := 2) (v := .int 1) hx hb hts in_X3 hown hK hM hS rfl 0 (by decide) fl_9 (fun _ h => h) rfl dX3_init_20 ?_
    refine bz_eq (tgt := 31) hx hb dX3_init_23 (by decide) (fun c_23 n_23 => ?_) (fun c_23 n_23 => ?_)
    · exact absurd c_23 (by decide)
    · skip
      refine lv_bipush (v := 121) hx hb dX3_init_26 (by decide) ?_
      refine lv_goto (tgt := 33) hx hb dX3_init_28 (by decide) ?_
      have hho := hh
      refine m_newa 0 rfl (atype := .long) hx hb (ty := .long) ac_long rfl hK hh (N' := 121) (a0 := (121, (.inr (.inl (fun _ => (0 : Int64)))))) (cellJ0 121) (by decide +kernel) (by decide +kernel) (by decide +kernel) (Nat.le_of_ble_eq_true rfl) (Nat.le_of_ble_eq_true rfl) dX3_init_33 (fun la M1 H1 hq e1 hh => ?_)
      have hkp := hkp.new hM hq e1
      have hf_la : M la = none := by rw [hq]; exact hho.new0 hM_0
      have hS := mu_kp e1 (by rw [hq]; exact hM.ne hS) hS
      have hla := mu_at e1
      have hla : M1 la = some (.inl (cA 0, 121, .inr (.inl (fun _ => (0 : Int64))))) := hla
      have hM := hh.1
      refine W.widen (k := 1) (n := 121) (by decide) (by decide) ?_
      refine m_putF (ci := 3) (C := RX3) (T := TX3) (N := 2) (v := .ref la) hx hb hts in_X3 tyX3 tyX3_ok nmX3 hown hK hh hS rfl 1 (by decide) fl_15 (fun _ h => h) rfl hin rfl (ty := tyX3 1) (by decide +kernel) (rfl) (rfl) (Nat.le_of_ble_eq_true rfl) dX3_init_35 (fun M1 H1 locs1 e1 hh => ?_)
      have hla := mu_kp e1 (mp_ne hla hS (by simp)) hla
      have hS := mu_at e1
      have hkp := hkp.put e1 (by simp)
      have hS : M1 lt = some (.inr (3, [.int 1, .ref la])) := hS
      have hM := hh.1
      refine lv_aload_n hx hb dX3_init_38 rfl (lv_at hl 0 rfl) ?_
      refine m_get (ci := 3) (C := RX3) (T := TX3) (N := 2) (v := .int 1) hx hb hts in_X3 hown hK hM hS rfl 0 (by decide) fl_9 (fun _ h => h) rfl dX3_init_39 ?_
      refine bz_eq (tgt := 56) hx hb dX3_init_42 (by decide) (fun c_42 n_42 => ?_) (fun c_42 n_42 => ?_)
      · exact absurd c_42 (by decide)
      · skip
        refine lv_aload_n hx hb dX3_init_45 rfl (lv_at hl 0 rfl) ?_
        refine m_get (ci := 3) (C := RX3) (T := TX3) (N := 2) (v := .ref la) hx hb hts in_X3 hown hK hM hS rfl 1 (by decide) fl_15 (fun _ h => h) rfl dX3_init_46 ?_
        refine lv_iload_n hx hb dX3_init_49 rfl (lv_at hl 2 rfl) ?_
        refine cmS (As := [.ref la, .int (bI mi)]) (rest := []) (k_X3_fillThree l D cA _ la mi _ hla) ⟨hx, hb, hml, hown, hts⟩ (va_cwS 2 hts gX3_init_X3_fillThree rfl rfl rfl (by decide +kernel) ⟨by decide, by decide⟩) hK hh rfl hl.1 rfl (Nat.le_of_ble_eq_true rfl) dX3_init_50 ⟨by decide, by decide⟩ (fun v9 M1 H1 locs1 hpost hh hz9 hk9 hn9 => ?_)
        obtain ⟨rfl, ⟨f, hla1, hf⟩, hkc⟩ := hpost
        have hkp := hkp.callN hkc hf_la
        have hS : M1 lt = some (.inr (3, [.int 1, .ref la])) := hkc _ _ hS (ni1 (mp_ne hS hla (by simp)))
        have hla : M1 la = some (.inl (cA 0, 121, .inr (.inl f))) := hla1
        have hM := hh.1
        refine W.eq (g2 := F0 m 53 ls []) rfl ?_
        refine lv_goto (tgt := 80) hx hb dX3_init_53 (by decide) ?_
        exact hretv _ _ _ _ _ _ _ hh (⟨rfl, ⟨la, f, hS, hla, hf⟩, hkp⟩) (by decide) (by decide) dX3_init_80 rfl
set_option maxHeartbeats 1000000 in
set_option maxRecDepth 100000 in
theorem k_X3_has2 (l : Launch) (D : va_G) (cA : Nat → ClassId) (M : mp) (g0 : Nat) (mi : Bool) (lt a b : Nat) (c0 : Int32) (hW0 : tab2 cA M g0 mi lt) (ha : a ≤ 60) (hb0 : b ≤ 60) : PC l D cA yX3_has wsX3_has 0 0 [.ref lt, .int (nI a), .int (nI b), .int c0] M (some (.int (bI (bitI (tbI g0 mi a) b)))) := by
  refine PC.zz (cc := cX3_has) (maxL := 6) (by decide) rfl (Nat.le_of_ble_eq_true rfl) ?_
  intro p e s m args below meth c H Q ls B hM hl hret
  obtain ⟨hx, hb, hown, hts, hml, hK, hin⟩ := B
  have hown : s.vm.findClass RX3 = some m.cls := hown
  have hl : lv_has ls 6 [(0, .ref lt), (1, .int (nI a)), (2, .int (nI b)), (3, .int c0)] := hl
  have in_X3 : ∀ w ∈ wsX30, w ∈ wsX3_has := by decide +kernel
  have fl_9 := hts (.fieldLink RX3 9 "GoldHeaps$LostTable" "ofThree" "Z") (by decide +kernel)
  have fl_15 := hts (.fieldLink RX3 15 "GoldHeaps$LostTable" "lines" "[J") (by decide +kernel)
  obtain ⟨la, f, hS, hla, hf⟩ := hW0
  refine lv_aload_n hx hb dX3_has_0 rfl (lv_at hl 0 rfl) ?_
  refine m_get (ci := 3) (C := RX3) (T := TX3) (N := 2) (v := .int 0) hx hb hts in_X3 hown hK hM hS rfl 0 (by decide) fl_9 (fun _ h => h) rfl dX3_has_1 ?_
  refine bz_eq (tgt := 16) hx hb dX3_has_4 (by decide) (fun c_4 n_4 => ?_) (fun c_4 n_4 => ?_)
  · skip
    refine lv_iload_n hx hb dX3_has_16 rfl (lv_at hl 1 rfl) ?_
    refine lv_istore (lv' := [(4, .int (nI a)), (0, .ref lt), (1, .int (nI a)), (2, .int (nI b)), (3, .int c0)]) hx hb dX3_has_17 hl (by decide) rfl (fun ls hl => ?_)
    refine lv_aload_n hx hb dX3_has_19 rfl (lv_at hl 1 rfl) ?_
    refine m_get (ci := 3) (C := RX3) (T := TX3) (N := 2) (v := .int 0) hx hb hts in_X3 hown hK hM hS rfl 0 (by decide) fl_9 (fun _ h => h) rfl dX3_has_20 ?_
    refine bz_eq (tgt := 30) hx hb dX3_has_23 (by decide) (fun c_23 n_23 => ?_) (fun c_23 n_23 => ?_)
    · skip
      refine lv_iload_n hx hb dX3_has_30 rfl (lv_at hl 3 rfl) ?_
      refine lv_istore (lv' := [(5, .int (nI b)), (4, .int (nI a)), (0, .ref lt), (1, .int (nI a)), (2, .int (nI b)), (3, .int c0)]) hx hb dX3_has_31 hl (by decide) rfl (fun ls hl => ?_)
      refine lv_iload hx hb dX3_has_33 (lv_at hl 1 rfl) ?_
      refine bz_lt (tgt := 69) hx hb dX3_has_35 (by decide) (fun c_35 n_35 => ?_) (fun c_35 n_35 => ?_)
      · exact absurd c_35 (nI_pos (by omega))
      · skip
        refine lv_iload hx hb dX3_has_38 (lv_at hl 1 rfl) ?_
        refine lv_aload_n hx hb dX3_has_40 rfl (lv_at hl 2 rfl) ?_
        refine m_get (ci := 3) (C := RX3) (T := TX3) (N := 2) (v := .ref la) hx hb hts in_X3 hown hK hM hS rfl 1 (by decide) fl_15 (fun _ h => h) rfl dX3_has_41 ?_
        refine m_alen (t0 := 0) (v := 61) hx hb hK hM hla rfl rfl dX3_has_44 ?_
        refine bi_ge (tgt := 69) hx hb dX3_has_45 (by decide) (fun c_45 n_45 => ?_) (fun c_45 n_45 => ?_)
        · exact absurd ((nI_leI (a := 61) (by decide) (by omega)).mp c_45) (by omega)
        · skip
          refine lv_aload_n hx hb dX3_has_48 rfl (lv_at hl 2 rfl) ?_
          refine m_get (ci := 3) (C := RX3) (T := TX3) (N := 2) (v := .ref la) hx hb hts in_X3 hown hK hM hS rfl 1 (by decide) fl_15 (fun _ h => h) rfl dX3_has_49 ?_
          refine lv_iload hx hb dX3_has_52 (lv_at hl 1 rfl) ?_
          refine m_laldN (k := a) hx hb hK hM hla (rfl) (by omega) (by decide) dX3_has_54 ?_
          refine tpl (x' := tbI g0 mi a) (hf a (by omega)) ?_
          refine lv_iload hx hb dX3_has_55 (lv_at hl 0 rfl) ?_
          refine lv_lushr hx hb dX3_has_57 rfl ?_
          refine lv_lconst (v := 1) hx hb dX3_has_58 (by decide) ?_
          refine lv_land hx hb dX3_has_59 ?_
          refine lv_lconst (v := 1) hx hb dX3_has_60 (by decide) ?_
          refine bl_ne (tgt := 69) hx hb dX3_has_61 dX3_has_62 (by decide) (fun c_62 n_62 => ?_) (fun c_62 n_62 => ?_)
          · skip
            refine lv_iconst (v := 0) hx hb dX3_has_69 (by decide) ?_
            exact hret _ _ _ dX3_has_70 (by unfold bitI; rw [decide_eq_false c_62]; rfl)
          · skip
            refine lv_iconst (v := 1) hx hb dX3_has_65 (by decide) ?_
            refine lv_goto (tgt := 70) hx hb dX3_has_66 (by decide) ?_
            exact hret _ _ _ dX3_has_70 (by unfold bitI; rw [decide_eq_true c_62]; rfl)
    · exact absurd rfl c_23
  · exact absurd rfl c_4
set_option maxHeartbeats 1000000 in
set_option maxRecDepth 100000 in
theorem k_X3_has3 (l : Launch) (D : va_G) (cA : Nat → ClassId) (M : mp) (mi : Bool) (lt a b c0 : Nat) (hW0 : tab3 cA M mi lt) (ha : a ≤ 10) (hb0 : b ≤ 10) (hc0 : c0 ≤ 10) : PC l D cA yX3_has wsX3_has 0 0 [.ref lt, .int (nI a), .int (nI b), .int (nI c0)] M (some (.int (bI (bitI (tbI 3 mi (11 * a + b)) c0)))) := by
  refine PC.zz (cc := cX3_has) (maxL := 6) (by decide) rfl (Nat.le_of_ble_eq_true rfl) ?_
  intro p e s m args below meth c H Q ls B hM hl hret
  obtain ⟨hx, hb, hown, hts, hml, hK, hin⟩ := B
  have hown : s.vm.findClass RX3 = some m.cls := hown
  have hl : lv_has ls 6 [(0, .ref lt), (1, .int (nI a)), (2, .int (nI b)), (3, .int (nI c0))] := hl
  have in_X3 : ∀ w ∈ wsX30, w ∈ wsX3_has := by decide +kernel
  have fl_9 := hts (.fieldLink RX3 9 "GoldHeaps$LostTable" "ofThree" "Z") (by decide +kernel)
  have fl_15 := hts (.fieldLink RX3 15 "GoldHeaps$LostTable" "lines" "[J") (by decide +kernel)
  obtain ⟨la, f, hS, hla, hf⟩ := hW0
  refine lv_aload_n hx hb dX3_has_0 rfl (lv_at hl 0 rfl) ?_
  refine m_get (ci := 3) (C := RX3) (T := TX3) (N := 2) (v := .int 1) hx hb hts in_X3 hown hK hM hS rfl 0 (by decide) fl_9 (fun _ h => h) rfl dX3_has_1 ?_
  refine bz_eq (tgt := 16) hx hb dX3_has_4 (by decide) (fun c_4 n_4 => ?_) (fun c_4 n_4 => ?_)
  · exact absurd c_4 (by decide)
  · skip
    refine lv_iload_n hx hb dX3_has_7 rfl (lv_at hl 1 rfl) ?_
    refine lv_bipush (v := 11) hx hb dX3_has_8 (by decide) ?_
    refine lv_imul hx hb dX3_has_10 ?_
    refine tpi (x' := nI (a * 11)) (pk_mul a 11) ?_
    refine lv_iload_n hx hb dX3_has_11 rfl (lv_at hl 2 rfl) ?_
    refine lv_iadd hx hb dX3_has_12 ?_
    refine tpi (x' := nI (11 * a + b)) (by rw [nI_add]; congr 1; omega) ?_
    refine lv_goto (tgt := 17) hx hb dX3_has_13 (by decide) ?_
    refine lv_istore (lv' := [(4, .int (nI (11 * a + b))), (0, .ref lt), (1, .int (nI a)), (2, .int (nI b)), (3, .int (nI c0))]) hx hb dX3_has_17 hl (by decide) rfl (fun ls hl => ?_)
    refine lv_aload_n hx hb dX3_has_19 rfl (lv_at hl 1 rfl) ?_
    refine m_get (ci := 3) (C := RX3) (T := TX3) (N := 2) (v := .int 1) hx hb hts in_X3 hown hK hM hS rfl 0 (by decide) fl_9 (fun _ h => h) rfl dX3_has_20 ?_
    refine bz_eq (tgt := 30) hx hb dX3_has_23 (by decide) (fun c_23 n_23 => ?_) (fun c_23 n_23 => ?_)
    · exact absurd c_23 (by decide)
    · skip
      refine lv_iload_n hx hb dX3_has_26 rfl (lv_at hl 4 rfl) ?_
      refine lv_goto (tgt := 31) hx hb dX3_has_27 (by decide) ?_
      refine lv_istore (lv' := [(5, .int (nI c0)), (4, .int (nI (11 * a + b))), (0, .ref lt), (1, .int (nI a)), (2, .int (nI b)), (3, .int (nI c0))]) hx hb dX3_has_31 hl (by decide) rfl (fun ls hl => ?_)
      refine lv_iload hx hb dX3_has_33 (lv_at hl 1 rfl) ?_
      refine bz_lt (tgt := 69) hx hb dX3_has_35 (by decide) (fun c_35 n_35 => ?_) (fun c_35 n_35 => ?_)
      · exact absurd c_35 (nI_pos (by omega))
      · skip
        refine lv_iload hx hb dX3_has_38 (lv_at hl 1 rfl) ?_
        refine lv_aload_n hx hb dX3_has_40 rfl (lv_at hl 2 rfl) ?_
        refine m_get (ci := 3) (C := RX3) (T := TX3) (N := 2) (v := .ref la) hx hb hts in_X3 hown hK hM hS rfl 1 (by decide) fl_15 (fun _ h => h) rfl dX3_has_41 ?_
        refine m_alen (t0 := 0) (v := 121) hx hb hK hM hla rfl rfl dX3_has_44 ?_
        refine bi_ge (tgt := 69) hx hb dX3_has_45 (by decide) (fun c_45 n_45 => ?_) (fun c_45 n_45 => ?_)
        · exact absurd ((nI_leI (a := 121) (by decide) (by omega)).mp c_45) (by omega)
        · skip
          refine lv_aload_n hx hb dX3_has_48 rfl (lv_at hl 2 rfl) ?_
          refine m_get (ci := 3) (C := RX3) (T := TX3) (N := 2) (v := .ref la) hx hb hts in_X3 hown hK hM hS rfl 1 (by decide) fl_15 (fun _ h => h) rfl dX3_has_49 ?_
          refine lv_iload hx hb dX3_has_52 (lv_at hl 1 rfl) ?_
          refine m_laldN (k := 11 * a + b) hx hb hK hM hla (rfl) (by omega) (by decide) dX3_has_54 ?_
          refine tpl (x' := tbI 3 mi (11 * a + b)) (hf _ (by omega)) ?_
          refine lv_iload hx hb dX3_has_55 (lv_at hl 0 rfl) ?_
          refine lv_lushr hx hb dX3_has_57 rfl ?_
          refine lv_lconst (v := 1) hx hb dX3_has_58 (by decide) ?_
          refine lv_land hx hb dX3_has_59 ?_
          refine lv_lconst (v := 1) hx hb dX3_has_60 (by decide) ?_
          refine bl_ne (tgt := 69) hx hb dX3_has_61 dX3_has_62 (by decide) (fun c_62 n_62 => ?_) (fun c_62 n_62 => ?_)
          · skip
            refine lv_iconst (v := 0) hx hb dX3_has_69 (by decide) ?_
            exact hret _ _ _ dX3_has_70 (by unfold bitI; rw [decide_eq_false c_62]; rfl)
          · skip
            refine lv_iconst (v := 1) hx hb dX3_has_65 (by decide) ?_
            refine lv_goto (tgt := 70) hx hb dX3_has_66 (by decide) ?_
            exact hret _ _ _ dX3_has_70 (by unfold bitI; rw [decide_eq_true c_62]; rfl)
set_option maxHeartbeats 1000000 in
set_option maxRecDepth 100000 in
theorem k_J13_bitCount_95d88 (l : Launch) (D : va_G) (cA : Nat → ClassId) (M : mp) (x : Int64)  : PC l D cA yJ13_bitCount_95d88 wsJ13_bitCount_95d88 0 0 [.long x] M (some (.int (bcI x))) := by
  refine PC.it (cc := cJ13_bitCount_95d88) (maxL := 2) (by decide) rfl (Nat.le_of_ble_eq_true rfl) ?_
  intro p e s m args below meth c H Q ls B hM hl hret
  obtain ⟨hx, hb, hown, hts, hml, hK, hin⟩ := B
  have hown : s.vm.findClass RJ13 = some m.cls := hown
  have hl : lv_has ls 2 [(0, .long x)] := hl
  have cst_314 := hts (.constantLong RJ13 314 (6148914691236517205)) (by decide +kernel)
  have cst_316 := hts (.constantLong RJ13 316 (3689348814741910323)) (by decide +kernel)
  have cst_318 := hts (.constantLong RJ13 318 (1085102592571150095)) (by decide +kernel)
  refine lv_lload_n hx hb dJ13_bitCount_95d88_0 rfl (lv_at hl 0 rfl) ?_
  refine lv_lload_n hx hb dJ13_bitCount_95d88_1 rfl (lv_at hl 0 rfl) ?_
  refine lv_iconst (v := 1) hx hb dJ13_bitCount_95d88_2 (by decide) ?_
  refine lv_lushr hx hb dJ13_bitCount_95d88_3 rfl ?_
  refine lv_ldc2 hx hb hown cst_314 dJ13_bitCount_95d88_4 ?_
  refine lv_land hx hb dJ13_bitCount_95d88_7 ?_
  refine lv_lsub hx hb dJ13_bitCount_95d88_8 ?_
  refine lv_lstore_n (lv' := [(0, .long ((x - ((((x : Int64).toUInt64 >>> ((1 : Int32).toInt64.toUInt64 &&& Int64.toUInt64 63)).toInt64) &&& 6148914691236517205))))]) hx hb dJ13_bitCount_95d88_9 rfl hl (by decide) rfl (fun ls hl => ?_)
  refine lv_lload_n hx hb dJ13_bitCount_95d88_10 rfl (lv_at hl 0 rfl) ?_
  refine lv_ldc2 hx hb hown cst_316 dJ13_bitCount_95d88_11 ?_
  refine lv_land hx hb dJ13_bitCount_95d88_14 ?_
  refine lv_lload_n hx hb dJ13_bitCount_95d88_15 rfl (lv_at hl 0 rfl) ?_
  refine lv_iconst (v := 2) hx hb dJ13_bitCount_95d88_16 (by decide) ?_
  refine lv_lushr hx hb dJ13_bitCount_95d88_17 rfl ?_
  refine lv_ldc2 hx hb hown cst_316 dJ13_bitCount_95d88_18 ?_
  refine lv_land hx hb dJ13_bitCount_95d88_21 ?_
  refine lv_ladd hx hb dJ13_bitCount_95d88_22 ?_
  refine lv_lstore_n (lv' := [(0, .long ((((x - ((((x : Int64).toUInt64 >>> ((1 : Int32).toInt64.toUInt64 &&& Int64.toUInt64 63)).toInt64) &&& 6148914691236517205)) &&& 3689348814741910323) + (((((x - ((((x : Int64).toUInt64 >>> ((1 : Int32).toInt64.toUInt64 &&& Int64.toUInt64 63)).toInt64) &&& 6148914691236517205)) : Int64).toUInt64 >>> ((2 : Int32).toInt64.toUInt64 &&& Int64.toUInt64 63)).toInt64) &&& 3689348814741910323))))]) hx hb dJ13_bitCount_95d88_23 rfl hl (by decide) rfl (fun ls hl => ?_)
  refine lv_lload_n hx hb dJ13_bitCount_95d88_24 rfl (lv_at hl 0 rfl) ?_
  refine lv_lload_n hx hb dJ13_bitCount_95d88_25 rfl (lv_at hl 0 rfl) ?_
  refine lv_iconst (v := 4) hx hb dJ13_bitCount_95d88_26 (by decide) ?_
  refine lv_lushr hx hb dJ13_bitCount_95d88_27 rfl ?_
  refine lv_ladd hx hb dJ13_bitCount_95d88_28 ?_
  refine lv_ldc2 hx hb hown cst_318 dJ13_bitCount_95d88_29 ?_
  refine lv_land hx hb dJ13_bitCount_95d88_32 ?_
  refine lv_lstore_n (lv' := [(0, .long ((((((x - ((((x : Int64).toUInt64 >>> ((1 : Int32).toInt64.toUInt64 &&& Int64.toUInt64 63)).toInt64) &&& 6148914691236517205)) &&& 3689348814741910323) + (((((x - ((((x : Int64).toUInt64 >>> ((1 : Int32).toInt64.toUInt64 &&& Int64.toUInt64 63)).toInt64) &&& 6148914691236517205)) : Int64).toUInt64 >>> ((2 : Int32).toInt64.toUInt64 &&& Int64.toUInt64 63)).toInt64) &&& 3689348814741910323)) + ((((((x - ((((x : Int64).toUInt64 >>> ((1 : Int32).toInt64.toUInt64 &&& Int64.toUInt64 63)).toInt64) &&& 6148914691236517205)) &&& 3689348814741910323) + (((((x - ((((x : Int64).toUInt64 >>> ((1 : Int32).toInt64.toUInt64 &&& Int64.toUInt64 63)).toInt64) &&& 6148914691236517205)) : Int64).toUInt64 >>> ((2 : Int32).toInt64.toUInt64 &&& Int64.toUInt64 63)).toInt64) &&& 3689348814741910323)) : Int64).toUInt64 >>> ((4 : Int32).toInt64.toUInt64 &&& Int64.toUInt64 63)).toInt64)) &&& 1085102592571150095)))]) hx hb dJ13_bitCount_95d88_33 rfl hl (by decide) rfl (fun ls hl => ?_)
  refine lv_lload_n hx hb dJ13_bitCount_95d88_34 rfl (lv_at hl 0 rfl) ?_
  refine lv_lload_n hx hb dJ13_bitCount_95d88_35 rfl (lv_at hl 0 rfl) ?_
  refine lv_bipush (v := 8) hx hb dJ13_bitCount_95d88_36 (by decide) ?_
  refine lv_lushr hx hb dJ13_bitCount_95d88_38 rfl ?_
  refine lv_ladd hx hb dJ13_bitCount_95d88_39 ?_
  refine lv_lstore_n (lv' := [(0, .long (((((((x - ((((x : Int64).toUInt64 >>> ((1 : Int32).toInt64.toUInt64 &&& Int64.toUInt64 63)).toInt64) &&& 6148914691236517205)) &&& 3689348814741910323) + (((((x - ((((x : Int64).toUInt64 >>> ((1 : Int32).toInt64.toUInt64 &&& Int64.toUInt64 63)).toInt64) &&& 6148914691236517205)) : Int64).toUInt64 >>> ((2 : Int32).toInt64.toUInt64 &&& Int64.toUInt64 63)).toInt64) &&& 3689348814741910323)) + ((((((x - ((((x : Int64).toUInt64 >>> ((1 : Int32).toInt64.toUInt64 &&& Int64.toUInt64 63)).toInt64) &&& 6148914691236517205)) &&& 3689348814741910323) + (((((x - ((((x : Int64).toUInt64 >>> ((1 : Int32).toInt64.toUInt64 &&& Int64.toUInt64 63)).toInt64) &&& 6148914691236517205)) : Int64).toUInt64 >>> ((2 : Int32).toInt64.toUInt64 &&& Int64.toUInt64 63)).toInt64) &&& 3689348814741910323)) : Int64).toUInt64 >>> ((4 : Int32).toInt64.toUInt64 &&& Int64.toUInt64 63)).toInt64)) &&& 1085102592571150095) + ((((((((x - ((((x : Int64).toUInt64 >>> ((1 : Int32).toInt64.toUInt64 &&& Int64.toUInt64 63)).toInt64) &&& 6148914691236517205)) &&& 3689348814741910323) + (((((x - ((((x : Int64).toUInt64 >>> ((1 : Int32).toInt64.toUInt64 &&& Int64.toUInt64 63)).toInt64) &&& 6148914691236517205)) : Int64).toUInt64 >>> ((2 : Int32).toInt64.toUInt64 &&& Int64.toUInt64 63)).toInt64) &&& 3689348814741910323)) + ((((((x - ((((x : Int64).toUInt64 >>> ((1 : Int32).toInt64.toUInt64 &&& Int64.toUInt64 63)).toInt64) &&& 6148914691236517205)) &&& 3689348814741910323) + (((((x - ((((x : Int64).toUInt64 >>> ((1 : Int32).toInt64.toUInt64 &&& Int64.toUInt64 63)).toInt64) &&& 6148914691236517205)) : Int64).toUInt64 >>> ((2 : Int32).toInt64.toUInt64 &&& Int64.toUInt64 63)).toInt64) &&& 3689348814741910323)) : Int64).toUInt64 >>> ((4 : Int32).toInt64.toUInt64 &&& Int64.toUInt64 63)).toInt64)) &&& 1085102592571150095) : Int64).toUInt64 >>> ((8 : Int32).toInt64.toUInt64 &&& Int64.toUInt64 63)).toInt64))))]) hx hb dJ13_bitCount_95d88_40 rfl hl (by decide) rfl (fun ls hl => ?_)
  refine lv_lload_n hx hb dJ13_bitCount_95d88_41 rfl (lv_at hl 0 rfl) ?_
  refine lv_lload_n hx hb dJ13_bitCount_95d88_42 rfl (lv_at hl 0 rfl) ?_
  refine lv_bipush (v := 16) hx hb dJ13_bitCount_95d88_43 (by decide) ?_
  refine lv_lushr hx hb dJ13_bitCount_95d88_45 rfl ?_
  refine lv_ladd hx hb dJ13_bitCount_95d88_46 ?_
  refine lv_lstore_n (lv' := [(0, .long ((((((((x - ((((x : Int64).toUInt64 >>> ((1 : Int32).toInt64.toUInt64 &&& Int64.toUInt64 63)).toInt64) &&& 6148914691236517205)) &&& 3689348814741910323) + (((((x - ((((x : Int64).toUInt64 >>> ((1 : Int32).toInt64.toUInt64 &&& Int64.toUInt64 63)).toInt64) &&& 6148914691236517205)) : Int64).toUInt64 >>> ((2 : Int32).toInt64.toUInt64 &&& Int64.toUInt64 63)).toInt64) &&& 3689348814741910323)) + ((((((x - ((((x : Int64).toUInt64 >>> ((1 : Int32).toInt64.toUInt64 &&& Int64.toUInt64 63)).toInt64) &&& 6148914691236517205)) &&& 3689348814741910323) + (((((x - ((((x : Int64).toUInt64 >>> ((1 : Int32).toInt64.toUInt64 &&& Int64.toUInt64 63)).toInt64) &&& 6148914691236517205)) : Int64).toUInt64 >>> ((2 : Int32).toInt64.toUInt64 &&& Int64.toUInt64 63)).toInt64) &&& 3689348814741910323)) : Int64).toUInt64 >>> ((4 : Int32).toInt64.toUInt64 &&& Int64.toUInt64 63)).toInt64)) &&& 1085102592571150095) + ((((((((x - ((((x : Int64).toUInt64 >>> ((1 : Int32).toInt64.toUInt64 &&& Int64.toUInt64 63)).toInt64) &&& 6148914691236517205)) &&& 3689348814741910323) + (((((x - ((((x : Int64).toUInt64 >>> ((1 : Int32).toInt64.toUInt64 &&& Int64.toUInt64 63)).toInt64) &&& 6148914691236517205)) : Int64).toUInt64 >>> ((2 : Int32).toInt64.toUInt64 &&& Int64.toUInt64 63)).toInt64) &&& 3689348814741910323)) + ((((((x - ((((x : Int64).toUInt64 >>> ((1 : Int32).toInt64.toUInt64 &&& Int64.toUInt64 63)).toInt64) &&& 6148914691236517205)) &&& 3689348814741910323) + (((((x - ((((x : Int64).toUInt64 >>> ((1 : Int32).toInt64.toUInt64 &&& Int64.toUInt64 63)).toInt64) &&& 6148914691236517205)) : Int64).toUInt64 >>> ((2 : Int32).toInt64.toUInt64 &&& Int64.toUInt64 63)).toInt64) &&& 3689348814741910323)) : Int64).toUInt64 >>> ((4 : Int32).toInt64.toUInt64 &&& Int64.toUInt64 63)).toInt64)) &&& 1085102592571150095) : Int64).toUInt64 >>> ((8 : Int32).toInt64.toUInt64 &&& Int64.toUInt64 63)).toInt64)) + (((((((((x - ((((x : Int64).toUInt64 >>> ((1 : Int32).toInt64.toUInt64 &&& Int64.toUInt64 63)).toInt64) &&& 6148914691236517205)) &&& 3689348814741910323) + (((((x - ((((x : Int64).toUInt64 >>> ((1 : Int32).toInt64.toUInt64 &&& Int64.toUInt64 63)).toInt64) &&& 6148914691236517205)) : Int64).toUInt64 >>> ((2 : Int32).toInt64.toUInt64 &&& Int64.toUInt64 63)).toInt64) &&& 3689348814741910323)) + ((((((x - ((((x : Int64).toUInt64 >>> ((1 : Int32).toInt64.toUInt64 &&& Int64.toUInt64 63)).toInt64) &&& 6148914691236517205)) &&& 3689348814741910323) + (((((x - ((((x : Int64).toUInt64 >>> ((1 : Int32).toInt64.toUInt64 &&& Int64.toUInt64 63)).toInt64) &&& 6148914691236517205)) : Int64).toUInt64 >>> ((2 : Int32).toInt64.toUInt64 &&& Int64.toUInt64 63)).toInt64) &&& 3689348814741910323)) : Int64).toUInt64 >>> ((4 : Int32).toInt64.toUInt64 &&& Int64.toUInt64 63)).toInt64)) &&& 1085102592571150095) + ((((((((x - ((((x : Int64).toUInt64 >>> ((1 : Int32).toInt64.toUInt64 &&& Int64.toUInt64 63)).toInt64) &&& 6148914691236517205)) &&& 3689348814741910323) + (((((x - ((((x : Int64).toUInt64 >>> ((1 : Int32).toInt64.toUInt64 &&& Int64.toUInt64 63)).toInt64) &&& 6148914691236517205)) : Int64).toUInt64 >>> ((2 : Int32).toInt64.toUInt64 &&& Int64.toUInt64 63)).toInt64) &&& 3689348814741910323)) + ((((((x - ((((x : Int64).toUInt64 >>> ((1 : Int32).toInt64.toUInt64 &&& Int64.toUInt64 63)).toInt64) &&& 6148914691236517205)) &&& 3689348814741910323) + (((((x - ((((x : Int64).toUInt64 >>> ((1 : Int32).toInt64.toUInt64 &&& Int64.toUInt64 63)).toInt64) &&& 6148914691236517205)) : Int64).toUInt64 >>> ((2 : Int32).toInt64.toUInt64 &&& Int64.toUInt64 63)).toInt64) &&& 3689348814741910323)) : Int64).toUInt64 >>> ((4 : Int32).toInt64.toUInt64 &&& Int64.toUInt64 63)).toInt64)) &&& 1085102592571150095) : Int64).toUInt64 >>> ((8 : Int32).toInt64.toUInt64 &&& Int64.toUInt64 63)).toInt64)) : Int64).toUInt64 >>> ((16 : Int32).toInt64.toUInt64 &&& Int64.toUInt64 63)).toInt64))))]) hx hb dJ13_bitCount_95d88_47 rfl hl (by decide) rfl (fun ls hl => ?_)
  refine lv_lload_n hx hb dJ13_bitCount_95d88_48 rfl (lv_at hl 0 rfl) ?_
  refine lv_lload_n hx hb dJ13_bitCount_95d88_49 rfl (lv_at hl 0 rfl) ?_
  refine lv_bipush (v := 32) hx hb dJ13_bitCount_95d88_50 (by decide) ?_
  refine lv_lushr hx hb dJ13_bitCount_95d88_52 rfl ?_
  refine lv_ladd hx hb dJ13_bitCount_95d88_53 ?_
  refine lv_lstore_n (lv' := [(0, .long (((((((((x - ((((x : Int64).toUInt64 >>> ((1 : Int32).toInt64.toUInt64 &&& Int64.toUInt64 63)).toInt64) &&& 6148914691236517205)) &&& 3689348814741910323) + (((((x - ((((x : Int64).toUInt64 >>> ((1 : Int32).toInt64.toUInt64 &&& Int64.toUInt64 63)).toInt64) &&& 6148914691236517205)) : Int64).toUInt64 >>> ((2 : Int32).toInt64.toUInt64 &&& Int64.toUInt64 63)).toInt64) &&& 3689348814741910323)) + ((((((x - ((((x : Int64).toUInt64 >>> ((1 : Int32).toInt64.toUInt64 &&& Int64.toUInt64 63)).toInt64) &&& 6148914691236517205)) &&& 3689348814741910323) + (((((x - ((((x : Int64).toUInt64 >>> ((1 : Int32).toInt64.toUInt64 &&& Int64.toUInt64 63)).toInt64) &&& 6148914691236517205)) : Int64).toUInt64 >>> ((2 : Int32).toInt64.toUInt64 &&& Int64.toUInt64 63)).toInt64) &&& 3689348814741910323)) : Int64).toUInt64 >>> ((4 : Int32).toInt64.toUInt64 &&& Int64.toUInt64 63)).toInt64)) &&& 1085102592571150095) + ((((((((x - ((((x : Int64).toUInt64 >>> ((1 : Int32).toInt64.toUInt64 &&& Int64.toUInt64 63)).toInt64) &&& 6148914691236517205)) &&& 3689348814741910323) + (((((x - ((((x : Int64).toUInt64 >>> ((1 : Int32).toInt64.toUInt64 &&& Int64.toUInt64 63)).toInt64) &&& 6148914691236517205)) : Int64).toUInt64 >>> ((2 : Int32).toInt64.toUInt64 &&& Int64.toUInt64 63)).toInt64) &&& 3689348814741910323)) + ((((((x - ((((x : Int64).toUInt64 >>> ((1 : Int32).toInt64.toUInt64 &&& Int64.toUInt64 63)).toInt64) &&& 6148914691236517205)) &&& 3689348814741910323) + (((((x - ((((x : Int64).toUInt64 >>> ((1 : Int32).toInt64.toUInt64 &&& Int64.toUInt64 63)).toInt64) &&& 6148914691236517205)) : Int64).toUInt64 >>> ((2 : Int32).toInt64.toUInt64 &&& Int64.toUInt64 63)).toInt64) &&& 3689348814741910323)) : Int64).toUInt64 >>> ((4 : Int32).toInt64.toUInt64 &&& Int64.toUInt64 63)).toInt64)) &&& 1085102592571150095) : Int64).toUInt64 >>> ((8 : Int32).toInt64.toUInt64 &&& Int64.toUInt64 63)).toInt64)) + (((((((((x - ((((x : Int64).toUInt64 >>> ((1 : Int32).toInt64.toUInt64 &&& Int64.toUInt64 63)).toInt64) &&& 6148914691236517205)) &&& 3689348814741910323) + (((((x - ((((x : Int64).toUInt64 >>> ((1 : Int32).toInt64.toUInt64 &&& Int64.toUInt64 63)).toInt64) &&& 6148914691236517205)) : Int64).toUInt64 >>> ((2 : Int32).toInt64.toUInt64 &&& Int64.toUInt64 63)).toInt64) &&& 3689348814741910323)) + ((((((x - ((((x : Int64).toUInt64 >>> ((1 : Int32).toInt64.toUInt64 &&& Int64.toUInt64 63)).toInt64) &&& 6148914691236517205)) &&& 3689348814741910323) + (((((x - ((((x : Int64).toUInt64 >>> ((1 : Int32).toInt64.toUInt64 &&& Int64.toUInt64 63)).toInt64) &&& 6148914691236517205)) : Int64).toUInt64 >>> ((2 : Int32).toInt64.toUInt64 &&& Int64.toUInt64 63)).toInt64) &&& 3689348814741910323)) : Int64).toUInt64 >>> ((4 : Int32).toInt64.toUInt64 &&& Int64.toUInt64 63)).toInt64)) &&& 1085102592571150095) + ((((((((x - ((((x : Int64).toUInt64 >>> ((1 : Int32).toInt64.toUInt64 &&& Int64.toUInt64 63)).toInt64) &&& 6148914691236517205)) &&& 3689348814741910323) + (((((x - ((((x : Int64).toUInt64 >>> ((1 : Int32).toInt64.toUInt64 &&& Int64.toUInt64 63)).toInt64) &&& 6148914691236517205)) : Int64).toUInt64 >>> ((2 : Int32).toInt64.toUInt64 &&& Int64.toUInt64 63)).toInt64) &&& 3689348814741910323)) + ((((((x - ((((x : Int64).toUInt64 >>> ((1 : Int32).toInt64.toUInt64 &&& Int64.toUInt64 63)).toInt64) &&& 6148914691236517205)) &&& 3689348814741910323) + (((((x - ((((x : Int64).toUInt64 >>> ((1 : Int32).toInt64.toUInt64 &&& Int64.toUInt64 63)).toInt64) &&& 6148914691236517205)) : Int64).toUInt64 >>> ((2 : Int32).toInt64.toUInt64 &&& Int64.toUInt64 63)).toInt64) &&& 3689348814741910323)) : Int64).toUInt64 >>> ((4 : Int32).toInt64.toUInt64 &&& Int64.toUInt64 63)).toInt64)) &&& 1085102592571150095) : Int64).toUInt64 >>> ((8 : Int32).toInt64.toUInt64 &&& Int64.toUInt64 63)).toInt64)) : Int64).toUInt64 >>> ((16 : Int32).toInt64.toUInt64 &&& Int64.toUInt64 63)).toInt64)) + ((((((((((x - ((((x : Int64).toUInt64 >>> ((1 : Int32).toInt64.toUInt64 &&& Int64.toUInt64 63)).toInt64) &&& 6148914691236517205)) &&& 3689348814741910323) + (((((x - ((((x : Int64).toUInt64 >>> ((1 : Int32).toInt64.toUInt64 &&& Int64.toUInt64 63)).toInt64) &&& 6148914691236517205)) : Int64).toUInt64 >>> ((2 : Int32).toInt64.toUInt64 &&& Int64.toUInt64 63)).toInt64) &&& 3689348814741910323)) + ((((((x - ((((x : Int64).toUInt64 >>> ((1 : Int32).toInt64.toUInt64 &&& Int64.toUInt64 63)).toInt64) &&& 6148914691236517205)) &&& 3689348814741910323) + (((((x - ((((x : Int64).toUInt64 >>> ((1 : Int32).toInt64.toUInt64 &&& Int64.toUInt64 63)).toInt64) &&& 6148914691236517205)) : Int64).toUInt64 >>> ((2 : Int32).toInt64.toUInt64 &&& Int64.toUInt64 63)).toInt64) &&& 3689348814741910323)) : Int64).toUInt64 >>> ((4 : Int32).toInt64.toUInt64 &&& Int64.toUInt64 63)).toInt64)) &&& 1085102592571150095) + ((((((((x - ((((x : Int64).toUInt64 >>> ((1 : Int32).toInt64.toUInt64 &&& Int64.toUInt64 63)).toInt64) &&& 6148914691236517205)) &&& 3689348814741910323) + (((((x - ((((x : Int64).toUInt64 >>> ((1 : Int32).toInt64.toUInt64 &&& Int64.toUInt64 63)).toInt64) &&& 6148914691236517205)) : Int64).toUInt64 >>> ((2 : Int32).toInt64.toUInt64 &&& Int64.toUInt64 63)).toInt64) &&& 3689348814741910323)) + ((((((x - ((((x : Int64).toUInt64 >>> ((1 : Int32).toInt64.toUInt64 &&& Int64.toUInt64 63)).toInt64) &&& 6148914691236517205)) &&& 3689348814741910323) + (((((x - ((((x : Int64).toUInt64 >>> ((1 : Int32).toInt64.toUInt64 &&& Int64.toUInt64 63)).toInt64) &&& 6148914691236517205)) : Int64).toUInt64 >>> ((2 : Int32).toInt64.toUInt64 &&& Int64.toUInt64 63)).toInt64) &&& 3689348814741910323)) : Int64).toUInt64 >>> ((4 : Int32).toInt64.toUInt64 &&& Int64.toUInt64 63)).toInt64)) &&& 1085102592571150095) : Int64).toUInt64 >>> ((8 : Int32).toInt64.toUInt64 &&& Int64.toUInt64 63)).toInt64)) + (((((((((x - ((((x : Int64).toUInt64 >>> ((1 : Int32).toInt64.toUInt64 &&& Int64.toUInt64 63)).toInt64) &&& 6148914691236517205)) &&& 3689348814741910323) + (((((x - ((((x : Int64).toUInt64 >>> ((1 : Int32).toInt64.toUInt64 &&& Int64.toUInt64 63)).toInt64) &&& 6148914691236517205)) : Int64).toUInt64 >>> ((2 : Int32).toInt64.toUInt64 &&& Int64.toUInt64 63)).toInt64) &&& 3689348814741910323)) + ((((((x - ((((x : Int64).toUInt64 >>> ((1 : Int32).toInt64.toUInt64 &&& Int64.toUInt64 63)).toInt64) &&& 6148914691236517205)) &&& 3689348814741910323) + (((((x - ((((x : Int64).toUInt64 >>> ((1 : Int32).toInt64.toUInt64 &&& Int64.toUInt64 63)).toInt64) &&& 6148914691236517205)) : Int64).toUInt64 >>> ((2 : Int32).toInt64.toUInt64 &&& Int64.toUInt64 63)).toInt64) &&& 3689348814741910323)) : Int64).toUInt64 >>> ((4 : Int32).toInt64.toUInt64 &&& Int64.toUInt64 63)).toInt64)) &&& 1085102592571150095) + ((((((((x - ((((x : Int64).toUInt64 >>> ((1 : Int32).toInt64.toUInt64 &&& Int64.toUInt64 63)).toInt64) &&& 6148914691236517205)) &&& 3689348814741910323) + (((((x - ((((x : Int64).toUInt64 >>> ((1 : Int32).toInt64.toUInt64 &&& Int64.toUInt64 63)).toInt64) &&& 6148914691236517205)) : Int64).toUInt64 >>> ((2 : Int32).toInt64.toUInt64 &&& Int64.toUInt64 63)).toInt64) &&& 3689348814741910323)) + ((((((x - ((((x : Int64).toUInt64 >>> ((1 : Int32).toInt64.toUInt64 &&& Int64.toUInt64 63)).toInt64) &&& 6148914691236517205)) &&& 3689348814741910323) + (((((x - ((((x : Int64).toUInt64 >>> ((1 : Int32).toInt64.toUInt64 &&& Int64.toUInt64 63)).toInt64) &&& 6148914691236517205)) : Int64).toUInt64 >>> ((2 : Int32).toInt64.toUInt64 &&& Int64.toUInt64 63)).toInt64) &&& 3689348814741910323)) : Int64).toUInt64 >>> ((4 : Int32).toInt64.toUInt64 &&& Int64.toUInt64 63)).toInt64)) &&& 1085102592571150095) : Int64).toUInt64 >>> ((8 : Int32).toInt64.toUInt64 &&& Int64.toUInt64 63)).toInt64)) : Int64).toUInt64 >>> ((16 : Int32).toInt64.toUInt64 &&& Int64.toUInt64 63)).toInt64)) : Int64).toUInt64 >>> ((32 : Int32).toInt64.toUInt64 &&& Int64.toUInt64 63)).toInt64))))]) hx hb dJ13_bitCount_95d88_54 rfl hl (by decide) rfl (fun ls hl => ?_)
  refine lv_lload_n hx hb dJ13_bitCount_95d88_55 rfl (lv_at hl 0 rfl) ?_
  refine lv_l2i hx hb dJ13_bitCount_95d88_56 rfl ?_
  refine lv_bipush (v := 127) hx hb dJ13_bitCount_95d88_57 (by decide) ?_
  refine lv_iand hx hb dJ13_bitCount_95d88_59 ?_
  exact hret _ _ _ dJ13_bitCount_95d88_60 (rfl)
set_option maxHeartbeats 1000000 in
set_option maxRecDepth 100000 in
theorem k_X3_countUpTo2 (l : Launch) (D : va_G) (cA : Nat → ClassId) (M : mp) (g0 : Nat) (mi : Bool) (lt m0 : Nat) (hW0 : tab2 cA M g0 mi lt) (hm : m0 ≤ 60) : PC l D cA yX3_countUpTo wsX3_countUpTo 1 21 [.ref lt, .int (nI m0)] M (some (.int (cu2 g0 mi m0 61))) := by
  refine PC.it (cc := cX3_countUpTo) (maxL := 8) (by decide) rfl (Nat.le_of_ble_eq_true rfl) ?_
  intro p e s m args below meth c H Q ls B hM hl hret
  obtain ⟨hx, hb, hown, hts, hml, hK, hin⟩ := B
  have hown : s.vm.findClass RX3 = some m.cls := hown
  have hl : lv_has ls 8 [(0, .ref lt), (1, .int (nI m0))] := hl
  have in_X3 : ∀ w ∈ wsX30, w ∈ wsX3_countUpTo := by decide +kernel
  have fl_15 := hts (.fieldLink RX3 15 "GoldHeaps$LostTable" "lines" "[J") (by decide +kernel)
  have fl_9 := hts (.fieldLink RX3 9 "GoldHeaps$LostTable" "ofThree" "Z") (by decide +kernel)
  obtain ⟨la, f, hS, hla, hf⟩ := hW0
  refine lv_lconst (v := 1) hx hb dX3_countUpTo_0 (by decide) ?_
  refine lv_iload_n hx hb dX3_countUpTo_1 rfl (lv_at hl 1 rfl) ?_
  refine lv_iconst (v := 1) hx hb dX3_countUpTo_2 (by decide) ?_
  refine lv_iadd hx hb dX3_countUpTo_3 ?_
  refine lv_lshl hx hb dX3_countUpTo_4 rfl ?_
  refine lv_lconst (v := 1) hx hb dX3_countUpTo_5 (by decide) ?_
  refine lv_lsub hx hb dX3_countUpTo_6 ?_
  refine tpl (x' := mskI m0) (rfl) ?_
  refine lv_lstore_n (lv' := [(2, .long (mskI m0)), (0, .ref lt), (1, .int (nI m0))]) hx hb dX3_countUpTo_7 rfl hl (by decide) rfl (fun ls hl => ?_)
  refine lv_iconst (v := 0) hx hb dX3_countUpTo_8 (by decide) ?_
  refine tpi (x' := cu2 g0 mi m0 0) (rfl) ?_
  refine lv_istore (lv' := [(4, .int (cu2 g0 mi m0 0)), (2, .long (mskI m0)), (0, .ref lt), (1, .int (nI m0))]) hx hb dX3_countUpTo_9 hl (by decide) rfl (fun ls hl => ?_)
  refine lv_iconst (v := 0) hx hb dX3_countUpTo_11 (by decide) ?_
  refine tpi (x' := nI 0) (rfl) ?_
  refine lv_istore (lv' := [(5, .int (nI 0)), (4, .int (cu2 g0 mi m0 0)), (2, .long (mskI m0)), (0, .ref lt), (1, .int (nI m0))]) hx hb dX3_countUpTo_12 hl (by decide) rfl (fun ls hl => ?_)
  have j_14 : ∀ (fu : Nat) (k : Nat) (ls : Array Slot), (k ≤ 61) → (61 - k < fu) → lv_has ls 8 [(0, .ref lt), (1, .int (nI m0)), (2, .long (mskI m0)), (4, .int (cu2 g0 mi m0 k)), (5, .int (nI k))] → W p l e ({ frames := 1, cells := 0, slots := 0, locals := 21 } : Room) s m args below meth c H [] 0 0 Q (F0 m 14 ls []) := by
    intro fu
    induction fu with
    | zero => intro k ls hk hm_14 _; exact absurd hm_14 (Nat.not_lt_zero _)
    | succ fu ih_14 =>
      intro k ls hk hm_14 hl
      refine lv_iload hx hb dX3_countUpTo_14 (lv_at hl 4 rfl) ?_
      refine lv_aload_n hx hb dX3_countUpTo_16 rfl (lv_at hl 0 rfl) ?_
      refine m_get (ci := 3) (C := RX3) (T := TX3) (N := 2) (v := .ref la) hx hb hts in_X3 hown hK hM hS rfl 1 (by decide) fl_15 (fun _ h => h) rfl dX3_countUpTo_17 ?_
      refine m_alen (t0 := 0) (v := 61) hx hb hK hM hla rfl rfl dX3_countUpTo_20 ?_
      refine bi_ge (tgt := 96) hx hb dX3_countUpTo_21 (by decide) (fun c_21 n_21 => ?_) (fun c_21 n_21 => ?_)
      · skip
        have hge : 61 ≤ k := (nI_leI (a := 61) (by decide) (by omega)).mp c_21
        refine lv_iload hx hb dX3_countUpTo_96 (lv_at hl 3 rfl) ?_
        exact hret _ _ _ dX3_countUpTo_98 (by rw [show k = 61 by omega])
      · skip
        have hlt : k < 61 := (nI_ltI (b := 61) (by omega) (by decide)).mp c_21
        refine lv_aload_n hx hb dX3_countUpTo_24 rfl (lv_at hl 0 rfl) ?_
        refine m_get (ci := 3) (C := RX3) (T := TX3) (N := 2) (v := .int 0) hx hb hts in_X3 hown hK hM hS rfl 0 (by decide) fl_9 (fun _ h => h) rfl dX3_countUpTo_25 ?_
        refine bz_eq (tgt := 39) hx hb dX3_countUpTo_28 (by decide) (fun c_28 n_28 => ?_) (fun c_28 n_28 => ?_)
        · skip
          refine lv_iload hx hb dX3_countUpTo_39 (lv_at hl 4 rfl) ?_
          refine lv_istore (lv' := [(6, .int (nI k)), (0, .ref lt), (1, .int (nI m0)), (2, .long (mskI m0)), (4, .int (cu2 g0 mi m0 k)), (5, .int (nI k))]) hx hb dX3_countUpTo_41 hl (by decide) rfl (fun ls hl => ?_)
          refine lv_aload_n hx hb dX3_countUpTo_43 rfl (lv_at hl 1 rfl) ?_
          refine m_get (ci := 3) (C := RX3) (T := TX3) (N := 2) (v := .int 0) hx hb hts in_X3 hown hK hM hS rfl 0 (by decide) fl_9 (fun _ h => h) rfl dX3_countUpTo_44 ?_
          refine bz_eq (tgt := 58) hx hb dX3_countUpTo_47 (by decide) (fun c_47 n_47 => ?_) (fun c_47 n_47 => ?_)
          · skip
            refine lv_iconst (v := 0) hx hb dX3_countUpTo_58 (by decide) ?_
            refine lv_istore (lv' := [(7, .int 0), (6, .int (nI k)), (0, .ref lt), (1, .int (nI m0)), (2, .long (mskI m0)), (4, .int (cu2 g0 mi m0 k)), (5, .int (nI k))]) hx hb dX3_countUpTo_59 hl (by decide) rfl (fun ls hl => ?_)
            refine lv_iload hx hb dX3_countUpTo_61 (lv_at hl 1 rfl) ?_
            refine lv_iload_n hx hb dX3_countUpTo_63 rfl (lv_at hl 3 rfl) ?_
            refine bi_gt (tgt := 90) hx hb dX3_countUpTo_64 (by decide) (fun c_64 n_64 => ?_) (fun c_64 n_64 => ?_)
            · skip
              have hkm : ¬ k ≤ m0 := fun z => absurd ((nI_ltI (by omega) (by omega)).mp c_64) (by omega)
              have hskip : cu2 g0 mi m0 k = cu2 g0 mi m0 (k + 1) := by show _ = (if k ≤ m0 then _ else _); rw [if_neg hkm]
              refine lv_iinc (v := nI (k + 1)) (lv' := [(5, .int (nI (k + 1))), (7, .int 0), (6, .int (nI k)), (0, .ref lt), (1, .int (nI m0)), (2, .long (mskI m0)), (4, .int (cu2 g0 mi m0 k))]) hx hb dX3_countUpTo_90 hl (k := 6) rfl (nI_up k) (by decide) rfl (fun ls hl => ?_)
              refine lv_goto (tgt := 14) hx hb dX3_countUpTo_93 (by decide) ?_
              rw [hskip] at hl
              exact ih_14 (k + 1) _ (by omega) (by omega) (lv_sub hl [3, 4, 5, 6, 0] rfl)
            · skip
              have hkm : k ≤ m0 := (nI_leI (by omega) (by omega)).mp c_64
              refine lv_iload hx hb dX3_countUpTo_67 (lv_at hl 0 rfl) ?_
              refine lv_iload_n hx hb dX3_countUpTo_69 rfl (lv_at hl 3 rfl) ?_
              refine bi_gt (tgt := 90) hx hb dX3_countUpTo_70 (by decide) (fun c_70 n_70 => ?_) (fun c_70 n_70 => ?_)
              · exact absurd ((nI_ltI (b := 0) (by omega) (by decide)).mp c_70) (by omega)
              · skip
                refine lv_iload hx hb dX3_countUpTo_73 (lv_at hl 5 rfl) ?_
                refine lv_aload_n hx hb dX3_countUpTo_75 rfl (lv_at hl 2 rfl) ?_
                refine m_get (ci := 3) (C := RX3) (T := TX3) (N := 2) (v := .ref la) hx hb hts in_X3 hown hK hM hS rfl 1 (by decide) fl_15 (fun _ h => h) rfl dX3_countUpTo_76 ?_
                refine lv_iload hx hb dX3_countUpTo_79 (lv_at hl 6 rfl) ?_
                refine m_laldN (k := k) hx hb hK hM hla (rfl) (by omega) (by decide) dX3_countUpTo_81 ?_
                refine tpl (x' := tbI g0 mi k) (hf k (by omega)) ?_
                refine lv_lload_n hx hb dX3_countUpTo_82 rfl (lv_at hl 4 rfl) ?_
                refine lv_land hx hb dX3_countUpTo_83 ?_
                refine cpS (As := [.long ((tbI g0 mi k &&& mskI m0))]) (rest := [.int (cu2 g0 mi m0 k)]) (k_J13_bitCount_95d88 l D cA _ (tbI g0 mi k &&& mskI m0)) ⟨hx, hb, hml, hown, hts⟩ (va_cwS 1 hts gX3_countUpTo_J13_bitCount_95d88 rfl rfl rfl (by decide +kernel) ⟨by decide, by decide⟩) hK hM rfl hl.1 rfl (Nat.le_of_ble_eq_true rfl) dX3_countUpTo_84 ⟨by decide, by decide⟩ ?_
                refine lv_iadd hx hb dX3_countUpTo_87 ?_
                refine tpi (x' := cu2 g0 mi m0 (k + 1)) (by show _ = (if k ≤ m0 then _ else _); rw [if_pos hkm]) ?_
                refine lv_istore (lv' := [(4, .int (cu2 g0 mi m0 (k + 1))), (7, .int 0), (6, .int (nI k)), (0, .ref lt), (1, .int (nI m0)), (2, .long (mskI m0)), (5, .int (nI k))]) hx hb dX3_countUpTo_88 hl (by decide) rfl (fun ls hl => ?_)
                refine lv_iinc (v := nI (k + 1)) (lv' := [(5, .int (nI (k + 1))), (4, .int (cu2 g0 mi m0 (k + 1))), (7, .int 0), (6, .int (nI k)), (0, .ref lt), (1, .int (nI m0)), (2, .long (mskI m0))]) hx hb dX3_countUpTo_90 hl (k := 6) rfl (nI_up k) (by decide) rfl (fun ls hl => ?_)
                refine lv_goto (tgt := 14) hx hb dX3_countUpTo_93 (by decide) ?_
                exact ih_14 (k + 1) _ (by omega) (by omega) (lv_sub hl [4, 5, 6, 1, 0] rfl)
          · exact absurd rfl c_47
        · exact absurd rfl c_28
  exact j_14 (62) 0 _ (Nat.zero_le _) (by omega) (lv_sub hl [3, 4, 2, 1, 0] rfl)
set_option maxHeartbeats 1000000 in
set_option maxRecDepth 100000 in
theorem k_X3_countUpTo3 (l : Launch) (D : va_G) (cA : Nat → ClassId) (M : mp) (mi : Bool) (lt m0 : Nat) (hW0 : tab3 cA M mi lt) (hm : m0 ≤ 10) : PC l D cA yX3_countUpTo wsX3_countUpTo 1 21 [.ref lt, .int (nI m0)] M (some (.int (cu3 mi m0 121))) := by
  refine PC.it (cc := cX3_countUpTo) (maxL := 8) (by decide) rfl (Nat.le_of_ble_eq_true rfl) ?_
  intro p e s m args below meth c H Q ls B hM hl hret
  obtain ⟨hx, hb, hown, hts, hml, hK, hin⟩ := B
  have hown : s.vm.findClass RX3 = some m.cls := hown
  have hl : lv_has ls 8 [(0, .ref lt), (1, .int (nI m0))] := hl
  have in_X3 : ∀ w ∈ wsX30, w ∈ wsX3_countUpTo := by decide +kernel
  have fl_15 := hts (.fieldLink RX3 15 "GoldHeaps$LostTable" "lines" "[J") (by decide +kernel)
  have fl_9 := hts (.fieldLink RX3 9 "GoldHeaps$LostTable" "ofThree" "Z") (by decide +kernel)
  obtain ⟨la, f, hS, hla, hf⟩ := hW0
  refine lv_lconst (v := 1) hx hb dX3_countUpTo_0 (by decide) ?_
  refine lv_iload_n hx hb dX3_countUpTo_1 rfl (lv_at hl 1 rfl) ?_
  refine lv_iconst (v := 1) hx hb dX3_countUpTo_2 (by decide) ?_
  refine lv_iadd hx hb dX3_countUpTo_3 ?_
  refine lv_lshl hx hb dX3_countUpTo_4 rfl ?_
  refine lv_lconst (v := 1) hx hb dX3_countUpTo_5 (by decide) ?_
  refine lv_lsub hx hb dX3_countUpTo_6 ?_
  refine tpl (x' := mskI m0) (rfl) ?_
  refine lv_lstore_n (lv' := [(2, .long (mskI m0)), (0, .ref lt), (1, .int (nI m0))]) hx hb dX3_countUpTo_7 rfl hl (by decide) rfl (fun ls hl => ?_)
  refine lv_iconst (v := 0) hx hb dX3_countUpTo_8 (by decide) ?_
  refine tpi (x' := cu3 mi m0 0) (rfl) ?_
  refine lv_istore (lv' := [(4, .int (cu3 mi m0 0)), (2, .long (mskI m0)), (0, .ref lt), (1, .int (nI m0))]) hx hb dX3_countUpTo_9 hl (by decide) rfl (fun ls hl => ?_)
  refine lv_iconst (v := 0) hx hb dX3_countUpTo_11 (by decide) ?_
  refine tpi (x' := nI 0) (rfl) ?_
  refine lv_istore (lv' := [(5, .int (nI 0)), (4, .int (cu3 mi m0 0)), (2, .long (mskI m0)), (0, .ref lt), (1, .int (nI m0))]) hx hb dX3_countUpTo_12 hl (by decide) rfl (fun ls hl => ?_)
  have j_14 : ∀ (fu : Nat) (k : Nat) (ls : Array Slot), (k ≤ 121) → (121 - k < fu) → lv_has ls 8 [(0, .ref lt), (1, .int (nI m0)), (2, .long (mskI m0)), (4, .int (cu3 mi m0 k)), (5, .int (nI k))] → W p l e ({ frames := 1, cells := 0, slots := 0, locals := 21 } : Room) s m args below meth c H [] 0 0 Q (F0 m 14 ls []) := by
    intro fu
    induction fu with
    | zero => intro k ls hk hm_14 _; exact absurd hm_14 (Nat.not_lt_zero _)
    | succ fu ih_14 =>
      intro k ls hk hm_14 hl
      refine lv_iload hx hb dX3_countUpTo_14 (lv_at hl 4 rfl) ?_
      refine lv_aload_n hx hb dX3_countUpTo_16 rfl (lv_at hl 0 rfl) ?_
      refine m_get (ci := 3) (C := RX3) (T := TX3) (N := 2) (v := .ref la) hx hb hts in_X3 hown hK hM hS rfl 1 (by decide) fl_15 (fun _ h => h) rfl dX3_countUpTo_17 ?_
      refine m_alen (t0 := 0) (v := 121) hx hb hK hM hla rfl rfl dX3_countUpTo_20 ?_
      refine bi_ge (tgt := 96) hx hb dX3_countUpTo_21 (by decide) (fun c_21 n_21 => ?_) (fun c_21 n_21 => ?_)
      · skip
        have hge : 121 ≤ k := (nI_leI (a := 121) (by decide) (by omega)).mp c_21
        refine lv_iload hx hb dX3_countUpTo_96 (lv_at hl 3 rfl) ?_
        exact hret _ _ _ dX3_countUpTo_98 (by rw [show k = 121 by omega])
      · skip
        have hlt : k < 121 := (nI_ltI (b := 121) (by omega) (by decide)).mp c_21
        refine lv_aload_n hx hb dX3_countUpTo_24 rfl (lv_at hl 0 rfl) ?_
        refine m_get (ci := 3) (C := RX3) (T := TX3) (N := 2) (v := .int 1) hx hb hts in_X3 hown hK hM hS rfl 0 (by decide) fl_9 (fun _ h => h) rfl dX3_countUpTo_25 ?_
        refine bz_eq (tgt := 39) hx hb dX3_countUpTo_28 (by decide) (fun c_28 n_28 => ?_) (fun c_28 n_28 => ?_)
        · exact absurd c_28 (by decide)
        · skip
          refine lv_iload hx hb dX3_countUpTo_31 (lv_at hl 4 rfl) ?_
          refine lv_bipush (v := 11) hx hb dX3_countUpTo_33 (by decide) ?_
          refine lv_idiv hx hb dX3_countUpTo_35 (by decide) ?_
          refine tpi (x' := nI (k / 11)) (pk_div (d := 11) (by omega) (by decide) (by decide)) ?_
          refine lv_goto (tgt := 41) hx hb dX3_countUpTo_36 (by decide) ?_
          refine lv_istore (lv' := [(6, .int (nI (k / 11))), (0, .ref lt), (1, .int (nI m0)), (2, .long (mskI m0)), (4, .int (cu3 mi m0 k)), (5, .int (nI k))]) hx hb dX3_countUpTo_41 hl (by decide) rfl (fun ls hl => ?_)
          refine lv_aload_n hx hb dX3_countUpTo_43 rfl (lv_at hl 1 rfl) ?_
          refine m_get (ci := 3) (C := RX3) (T := TX3) (N := 2) (v := .int 1) hx hb hts in_X3 hown hK hM hS rfl 0 (by decide) fl_9 (fun _ h => h) rfl dX3_countUpTo_44 ?_
          refine bz_eq (tgt := 58) hx hb dX3_countUpTo_47 (by decide) (fun c_47 n_47 => ?_) (fun c_47 n_47 => ?_)
          · exact absurd c_47 (by decide)
          · skip
            refine lv_iload hx hb dX3_countUpTo_50 (lv_at hl 5 rfl) ?_
            refine lv_bipush (v := 11) hx hb dX3_countUpTo_52 (by decide) ?_
            refine lv_irem hx hb dX3_countUpTo_54 (by decide) ?_
            refine tpi (x' := nI (k % 11)) (pk_rem (d := 11) (by omega) (by decide) (by decide)) ?_
            refine lv_goto (tgt := 59) hx hb dX3_countUpTo_55 (by decide) ?_
            refine lv_istore (lv' := [(7, .int (nI (k % 11))), (6, .int (nI (k / 11))), (0, .ref lt), (1, .int (nI m0)), (2, .long (mskI m0)), (4, .int (cu3 mi m0 k)), (5, .int (nI k))]) hx hb dX3_countUpTo_59 hl (by decide) rfl (fun ls hl => ?_)
            refine lv_iload hx hb dX3_countUpTo_61 (lv_at hl 1 rfl) ?_
            refine lv_iload_n hx hb dX3_countUpTo_63 rfl (lv_at hl 3 rfl) ?_
            refine bi_gt (tgt := 90) hx hb dX3_countUpTo_64 (by decide) (fun c_64 n_64 => ?_) (fun c_64 n_64 => ?_)
            · skip
              have hkm : ¬ k / 11 ≤ m0 := fun z => absurd ((nI_ltI (by omega) (by omega)).mp c_64) (by omega)
              have hskip : cu3 mi m0 k = cu3 mi m0 (k + 1) := by show _ = (if k / 11 ≤ m0 ∧ k % 11 ≤ m0 then _ else _); rw [if_neg (fun z => hkm z.1)]
              refine lv_iinc (v := nI (k + 1)) (lv' := [(5, .int (nI (k + 1))), (7, .int (nI (k % 11))), (6, .int (nI (k / 11))), (0, .ref lt), (1, .int (nI m0)), (2, .long (mskI m0)), (4, .int (cu3 mi m0 k))]) hx hb dX3_countUpTo_90 hl (k := 6) rfl (nI_up k) (by decide) rfl (fun ls hl => ?_)
              refine lv_goto (tgt := 14) hx hb dX3_countUpTo_93 (by decide) ?_
              rw [hskip] at hl
              exact ih_14 (k + 1) _ (by omega) (by omega) (lv_sub hl [3, 4, 5, 6, 0] rfl)
            · skip
              have hkm : k / 11 ≤ m0 := (nI_leI (by omega) (by omega)).mp c_64
              refine lv_iload hx hb dX3_countUpTo_67 (lv_at hl 0 rfl) ?_
              refine lv_iload_n hx hb dX3_countUpTo_69 rfl (lv_at hl 3 rfl) ?_
              refine bi_gt (tgt := 90) hx hb dX3_countUpTo_70 (by decide) (fun c_70 n_70 => ?_) (fun c_70 n_70 => ?_)
              · skip
                have hkm2 : ¬ k % 11 ≤ m0 := fun z => absurd ((nI_ltI (by omega) (by omega)).mp c_70) (by omega)
                have hskip : cu3 mi m0 k = cu3 mi m0 (k + 1) := by show _ = (if k / 11 ≤ m0 ∧ k % 11 ≤ m0 then _ else _); rw [if_neg (fun z => hkm2 z.2)]
                refine lv_iinc (v := nI (k + 1)) (lv' := [(5, .int (nI (k + 1))), (7, .int (nI (k % 11))), (6, .int (nI (k / 11))), (0, .ref lt), (1, .int (nI m0)), (2, .long (mskI m0)), (4, .int (cu3 mi m0 k))]) hx hb dX3_countUpTo_90 hl (k := 6) rfl (nI_up k) (by decide) rfl (fun ls hl => ?_)
                refine lv_goto (tgt := 14) hx hb dX3_countUpTo_93 (by decide) ?_
                rw [hskip] at hl
                exact ih_14 (k + 1) _ (by omega) (by omega) (lv_sub hl [3, 4, 5, 6, 0] rfl)
              · skip
                have hkm2 : k % 11 ≤ m0 := (nI_leI (by omega) (by omega)).mp c_70
                refine lv_iload hx hb dX3_countUpTo_73 (lv_at hl 5 rfl) ?_
                refine lv_aload_n hx hb dX3_countUpTo_75 rfl (lv_at hl 2 rfl) ?_
                refine m_get (ci := 3) (C := RX3) (T := TX3) (N := 2) (v := .ref la) hx hb hts in_X3 hown hK hM hS rfl 1 (by decide) fl_15 (fun _ h => h) rfl dX3_countUpTo_76 ?_
                refine lv_iload hx hb dX3_countUpTo_79 (lv_at hl 6 rfl) ?_
                refine m_laldN (k := k) hx hb hK hM hla (rfl) (by omega) (by decide) dX3_countUpTo_81 ?_
                refine tpl (x' := tbI 3 mi k) (hf k (by omega)) ?_
                refine lv_lload_n hx hb dX3_countUpTo_82 rfl (lv_at hl 4 rfl) ?_
                refine lv_land hx hb dX3_countUpTo_83 ?_
                refine cpS (As := [.long ((tbI 3 mi k &&& mskI m0))]) (rest := [.int (cu3 mi m0 k)]) (k_J13_bitCount_95d88 l D cA _ (tbI 3 mi k &&& mskI m0)) ⟨hx, hb, hml, hown, hts⟩ (va_cwS 1 hts gX3_countUpTo_J13_bitCount_95d88 rfl rfl rfl (by decide +kernel) ⟨by decide, by decide⟩) hK hM rfl hl.1 rfl (Nat.le_of_ble_eq_true rfl) dX3_countUpTo_84 ⟨by decide, by decide⟩ ?_
                refine lv_iadd hx hb dX3_countUpTo_87 ?_
                refine tpi (x' := cu3 mi m0 (k + 1)) (by show _ = (if k / 11 ≤ m0 ∧ k % 11 ≤ m0 then _ else _); rw [if_pos ⟨hkm, hkm2⟩]) ?_
                refine lv_istore (lv' := [(4, .int (cu3 mi m0 (k + 1))), (7, .int (nI (k % 11))), (6, .int (nI (k / 11))), (0, .ref lt), (1, .int (nI m0)), (2, .long (mskI m0)), (5, .int (nI k))]) hx hb dX3_countUpTo_88 hl (by decide) rfl (fun ls hl => ?_)
                refine lv_iinc (v := nI (k + 1)) (lv' := [(5, .int (nI (k + 1))), (4, .int (cu3 mi m0 (k + 1))), (7, .int (nI (k % 11))), (6, .int (nI (k / 11))), (0, .ref lt), (1, .int (nI m0)), (2, .long (mskI m0))]) hx hb dX3_countUpTo_90 hl (k := 6) rfl (nI_up k) (by decide) rfl (fun ls hl => ?_)
                refine lv_goto (tgt := 14) hx hb dX3_countUpTo_93 (by decide) ?_
                exact ih_14 (k + 1) _ (by omega) (by omega) (lv_sub hl [4, 5, 6, 1, 0] rfl)
  exact j_14 (122) 0 _ (Nat.zero_le _) (by omega) (lv_sub hl [3, 4, 2, 1, 0] rfl)
set_option maxHeartbeats 1000000 in
set_option maxRecDepth 100000 in
theorem k_X2_tableOf0 (l : Launch) (D : va_G) (cA : Nat → ClassId) (M : mp) (J TG GO SG BG TM : Nat) (mi : Bool) (hj : M J = some (.inr (2, [.ref TG, .ref GO, .ref SG, .ref BG, .ref TM]))) (hW0 : tmW cA M TM) : MC l D cA yX2_tableOf wsX2_tableOf 3 90 3 123 [.ref J, .int 0, .int (bI mi)] M (fun r M' => (∃ a, r = some (.ref a) ∧ tab2 cA M' 0 mi a) ∧ tmW cA M' TM ∧ kpL M M' [TM]) := by
  refine MC.of (cc := cX2_tableOf) (maxL := 5) (ret := (some (.object "GoldHeaps$LostTable"))) (by decide) rfl (Nat.le_of_ble_eq_true rfl) ?_
  intro p e s m args below meth c Q ls B hh hl hretv hreti hretz hretl hreta
  obtain ⟨hx, hb, hown, hts, hml, hK, hin⟩ := B
  have hM := hh.1
  have hM_0 := hh.1
  have hkp : kpL M M [TM] := kpL.rf M _
  have hown : s.vm.findClass RX2 = some m.cls := hown
  have hl : lv_has ls 5 [(0, .ref J), (1, .int 0), (2, .int (bI mi))] := hl
  have cst_53 := hts (.constantLong RX2 53 (3)) (by decide +kernel)
  have nl_55 := hK.2.1 (.methodLinkNest RX2 55 yX8_isWithin "GoldHeaps") (by decide +kernel)
  have ni_X8 := hts (.initialized RX8) (by decide +kernel)
  have ns_55 := hts (.static yX8_isWithin) (by decide +kernel)
  have nl_59 := hK.2.1 (.methodLinkNest RX2 59 yX8_oneIf "GoldHeaps") (by decide +kernel)
  have ns_59 := hts (.static yX8_oneIf) (by decide +kernel)
  have in_X2 : ∀ w ∈ wsX20, w ∈ wsX2_tableOf := by decide +kernel
  have fl_11 := hts (.fieldLink RX2 11 "GoldHeaps$Judge" "tablesMade" "[LGoldHeaps$LostTable;") (by decide +kernel)
  have cl_9 := hts (.classLink RX2 9 RX3) (by decide +kernel)
  have ins_X3 := hts (.instantiable RX3 2) (by decide +kernel)
  have ini_X3 := hts (.initialized RX3) (by decide +kernel)
  have in_X3 : ∀ w ∈ wsX30, w ∈ wsX2_tableOf := by decide +kernel
  have im_X3_init := hts (.instanceMethod yX3_init) (by decide +kernel)
  have ml_63 := hts (.methodLink RX2 63 yX3_init) (by decide +kernel)
  obtain ⟨ft, hTM, ht2, ht3⟩ := hW0
  have hbn : bN mi ≤ 1 := by cases mi <;> decide
  refine lv_iconst (v := 2) hx hb dX2_tableOf_0 (by decide) ?_
  refine lv_iload_n hx hb dX2_tableOf_1 rfl (lv_at hl 1 rfl) ?_
  refine lv_i2l hx hb dX2_tableOf_2 rfl ?_
  refine lv_lconst (v := 0) hx hb dX2_tableOf_3 (by decide) ?_
  refine lv_ldc2 hx hb hown cst_53 dX2_tableOf_4 ?_
  refine cpSN (As := [.long ((0 : Int32).toInt64), .long 0, .long 3]) (rest := [.int 2]) (k_X8_isWithin l D cA _ (0 : Int32).toInt64 0 3) ⟨hx, hb, hml, hown, hts⟩ ⟨va_cnB 3 hts gX2_tableOf_X8_isWithin_n55 rfl rfl rfl nl_55 ni_X8 (by decide +kernel) ⟨by decide, by decide⟩, ns_55, trivial⟩ hK hM rfl hl.1 rfl (Nat.le_of_ble_eq_true rfl) dX2_tableOf_7 ⟨by decide, by decide⟩ ?_
  refine bz_eq (tgt := 17) hx hb dX2_tableOf_10 (by decide) (fun c_10 n_10 => ?_) (fun c_10 n_10 => ?_)
  · exact absurd c_10 (by decide)
  · skip
    refine lv_iload_n hx hb dX2_tableOf_13 rfl (lv_at hl 1 rfl) ?_
    refine lv_goto (tgt := 18) hx hb dX2_tableOf_14 (by decide) ?_
    refine lv_imul hx hb dX2_tableOf_18 ?_
    refine tpi (x' := nI 0) (by decide) ?_
    refine lv_iload_n hx hb dX2_tableOf_19 rfl (lv_at hl 2 rfl) ?_
    refine cpSN (As := [.int (bI mi)]) (rest := [.int (nI 0)]) (k_X8_oneIf l D cA _ mi) ⟨hx, hb, hml, hown, hts⟩ ⟨va_cnB 1 hts gX2_tableOf_X8_oneIf_n59 rfl rfl rfl nl_59 ni_X8 (by decide +kernel) ⟨by decide, by decide⟩, ns_59, trivial⟩ hK hM rfl hl.1 rfl (Nat.le_of_ble_eq_true rfl) dX2_tableOf_20 ⟨by decide, by decide⟩ ?_
    refine lv_iadd hx hb dX2_tableOf_23 ?_
    refine tpi (x' := nI (0 + bN mi)) (nI_bN _ _) ?_
    refine lv_istore_n (lv' := [(3, .int (nI (0 + bN mi))), (0, .ref J), (1, .int 0), (2, .int (bI mi))]) hx hb dX2_tableOf_24 rfl hl (by decide) rfl (fun ls hl => ?_)
    refine lv_aload_n hx hb dX2_tableOf_25 rfl (lv_at hl 1 rfl) ?_
    refine m_get (ci := 2) (C := RX2) (T := TX2) (N := 5) (v := .ref TM) hx hb hts in_X2 hown hK hM hj rfl 4 (by decide) fl_11 (fun _ h => h) rfl dX2_tableOf_26 ?_
    refine lv_iload_n hx hb dX2_tableOf_29 rfl (lv_at hl 0 rfl) ?_
    refine m_aldTN (k := 0 + bN mi) hx hb hK hM hTM (rfl) (by omega) (by decide) dX2_tableOf_30 ?_
    cases hft : ft (0 + bN mi) with
    | none =>
      refine tpv (x' := .null) rfl ?_
      refine lv_astoreN (lv' := [(4, .null), (3, .int (nI (0 + bN mi))), (0, .ref J), (1, .int 0), (2, .int (bI mi))]) hx hb dX2_tableOf_31 hl (by decide) rfl (fun ls hl => ?_)
      refine lv_aloadN hx hb dX2_tableOf_33 (lv_at hl 0 rfl) ?_
      refine lv_ifnonnullN hx hb dX2_tableOf_35 ?_
      have hM0 := hM
      have hj0 := hj
      have hTM0 := hTM
      have hho := hh
      refine m_new (ci := 3) (fs := [.int 0, .null]) (C := RX3) (T := TX3) (N := 2) hx hb hts in_X3 tyX3 tyX3_ok hown cl_9 ins_X3 ini_X3 hK hh rfl (fun j hj => by rcases (show j = 0 ∨ j = 1 by omega) with rfl | rfl <;> rfl) (by decide) (by decide) dX2_tableOf_38 (fun sa M1 H1 hq e1 hh => ?_)
      have hkp := hkp.new hM hq e1
      have hf_sa : M sa = none := by rw [hq]; exact hho.new0 hM_0
      have hj := mu_kp e1 (by rw [hq]; exact hM.ne hj) hj
      have hTM := mu_kp e1 (by rw [hq]; exact hM.ne hTM) hTM
      have hS := mu_at e1
      have hS : M1 sa = some (.inr (3, [.int 0, .null])) := hS
      have hM := hh.1
      refine W.widen (k := 1) (n := 2) (by decide) (by decide) ?_
      refine lv_dup hx hb dX2_tableOf_41 rfl ?_
      refine lv_iload_n hx hb dX2_tableOf_42 rfl (lv_at hl 3 rfl) ?_
      refine lv_iload_n hx hb dX2_tableOf_43 rfl (lv_at hl 4 rfl) ?_
      refine cmI (As := [.int 0, .int (bI mi)]) (rest := [.ref sa]) (k_X3_init0 l D cA _ sa mi hS) ⟨hx, hb, hml, hown, hts⟩ (cwI 2 hts gX2_tableOf_X3_init rfl rfl rfl ini_X3 ml_63 im_X3_init rfl (by decide +kernel) ⟨by decide, by decide⟩) hK hh rfl hl.1 rfl (Nat.le_of_ble_eq_true rfl) dX2_tableOf_44 ⟨by decide, by decide⟩ (fun v9 M1 H1 locs1 hpost hh hz9 hk9 hn9 => ?_)
      obtain ⟨rfl, hsw, hkc⟩ := hpost
      obtain ⟨la, f, hS1, hla1, hf⟩ := hsw
      have hkp : kpL M M1 [TM] := hkp.callN hkc hf_sa
      have hj : M1 J = some (.inr (2, [.ref TG, .ref GO, .ref SG, .ref BG, .ref TM])) := hkc _ _ hj (ni1 (by rw [hq]; exact hM0.ne hj0))
      have hTM : M1 TM = some (.inl (cA 4, 8, .inr (.inr (.inr (.inr ft))))) := hkc _ _ hTM (ni1 (by rw [hq]; exact hM0.ne hTM0))
      have hS : M1 sa = some (.inr (3, [.int 0, .ref la])) := hS1
      have hla : M1 la = some (.inl (cA 0, 61, .inr (.inl f))) := hla1
      have hM := hh.1
      refine W.widen (k := 2) (n := 123) (by decide) (by decide) ?_
      refine W.eq (g2 := F0 m 47 ls [.ref sa]) rfl ?_
      refine lv_astore (lv' := [(4, .ref sa), (3, .int (nI (0 + bN mi))), (0, .ref J), (1, .int 0), (2, .int (bI mi))]) hx hb dX2_tableOf_47 hl (by decide) rfl (fun ls hl => ?_)
      refine lv_aload_n hx hb dX2_tableOf_49 rfl (lv_at hl 2 rfl) ?_
      refine m_get (ci := 2) (C := RX2) (T := TX2) (N := 5) (v := .ref TM) hx hb hts in_X2 hown hK hM hj rfl 4 (by decide) fl_11 (fun _ h => h) rfl dX2_tableOf_50 ?_
      refine lv_iload_n hx hb dX2_tableOf_53 rfl (lv_at hl 1 rfl) ?_
      refine lv_aload hx hb dX2_tableOf_54 (lv_at hl 0 rfl) ?_
      refine m_astqN 4 (k := 0 + bN mi) rfl hx hb hK hh hTM hS rfl (rfl) (by omega) (by decide) dX2_tableOf_56 (fun M1 H1 locs1 e1 hh => ?_)
      have hj := mu_kp e1 (mp_ne hj hTM (by simp)) hj
      have hS := mu_kp e1 (mp_ne hS hTM (by simp)) hS
      have hla := mu_kp e1 (mp_ne hla hTM (by simp)) hla
      have hTM := mu_at e1
      have hkp := hkp.put e1 (by simp)
      have hTM : M1 TM = some (.inl (cA 4, 8, .inr (.inr (.inr (.inr (va_up ft (0 + bN mi) (some sa))))))) := hTM
      have hM := hh.1
      refine lv_aload hx hb dX2_tableOf_57 (lv_at hl 0 rfl) ?_
      exact hreta _ _ _ _ _ _ _ _ _ hh (⟨⟨sa, rfl, la, f, hS, hla, hf⟩, ⟨_, hTM, (fun g1 m1 a1 q1 w1 => by by_cases e9 : 2 * g1 + bN m1 = 0 + bN mi; (exact by have hb1 : bN m1 ≤ 1 := (by cases m1 <;> decide); have hb2 : bN mi ≤ 1 := (by cases mi <;> decide); have e7 : g1 = 0 := (by omega); have e8 : m1 = mi := bN_inj (by omega); rw [e7, e8, va_up_self] at w1; cases w1; rw [e7, e8]; exact ⟨la, f, hS, hla, hf⟩); (rw [va_up_ne _ _ e9] at w1; exact (ht2 g1 m1 a1 q1 w1).kp (kpI.of1 hkp hTM0 (fun z => z)))), (fun m1 a1 w1 => by by_cases e9 : 6 + bN m1 = 0 + bN mi; (exact absurd e9 (by have h1 : bN mi ≤ 1 := (by cases mi <;> decide); omega)); (rw [va_up_ne _ _ e9] at w1; exact (ht3 m1 a1 w1).kp (kpI.of1 hkp hTM0 (fun z => z))))⟩, hkp⟩) (by decide) (by decide) dX2_tableOf_59 rfl
    | some sa =>
      refine tpv (x' := .ref sa) rfl ?_
      refine lv_astore (lv' := [(4, .ref sa), (3, .int (nI (0 + bN mi))), (0, .ref J), (1, .int 0), (2, .int (bI mi))]) hx hb dX2_tableOf_31 hl (by decide) rfl (fun ls hl => ?_)
      refine lv_aload hx hb dX2_tableOf_33 (lv_at hl 0 rfl) ?_
      refine lv_ifnonnull (tgt := 57) hx hb dX2_tableOf_35 (by decide) ?_
      refine lv_aload hx hb dX2_tableOf_57 (lv_at hl 0 rfl) ?_
      exact hreta _ _ _ _ _ _ _ _ _ hh (⟨⟨sa, rfl, ht2 0 mi sa (by decide) hft⟩, ⟨ft, hTM, ht2, ht3⟩, hkp⟩) (by decide) (by decide) dX2_tableOf_59 rfl
set_option maxHeartbeats 1000000 in
set_option maxRecDepth 100000 in
theorem k_X2_tableOf1 (l : Launch) (D : va_G) (cA : Nat → ClassId) (M : mp) (J TG GO SG BG TM : Nat) (mi : Bool) (hj : M J = some (.inr (2, [.ref TG, .ref GO, .ref SG, .ref BG, .ref TM]))) (hW0 : tmW cA M TM) : MC l D cA yX2_tableOf wsX2_tableOf 3 90 3 123 [.ref J, .int 1, .int (bI mi)] M (fun r M' => (∃ a, r = some (.ref a) ∧ tab2 cA M' 1 mi a) ∧ tmW cA M' TM ∧ kpL M M' [TM]) := by
  refine MC.of (cc := cX2_tableOf) (maxL := 5) (ret := (some (.object "GoldHeaps$LostTable"))) (by decide) rfl (Nat.le_of_ble_eq_true rfl) ?_
  intro p e s m args below meth c Q ls B hh hl hretv hreti hretz hretl hreta
  obtain ⟨hx, hb, hown, hts, hml, hK, hin⟩ := B
  have hM := hh.1
  have hM_0 := hh.1
  have hkp : kpL M M [TM] := kpL.rf M _
  have hown : s.vm.findClass RX2 = some m.cls := hown
  have hl : lv_has ls 5 [(0, .ref J), (1, .int 1), (2, .int (bI mi))] := hl
  have cst_53 := hts (.constantLong RX2 53 (3)) (by decide +kernel)
  have nl_55 := hK.2.1 (.methodLinkNest RX2 55 yX8_isWithin "GoldHeaps") (by decide +kernel)
  have ni_X8 := hts (.initialized RX8) (by decide +kernel)
  have ns_55 := hts (.static yX8_isWithin) (by decide +kernel)
  have nl_59 := hK.2.1 (.methodLinkNest RX2 59 yX8_oneIf "GoldHeaps") (by decide +kernel)
  have ns_59 := hts (.static yX8_oneIf) (by decide +kernel)
  have in_X2 : ∀ w ∈ wsX20, w ∈ wsX2_tableOf := by decide +kernel
  have fl_11 := hts (.fieldLink RX2 11 "GoldHeaps$Judge" "tablesMade" "[LGoldHeaps$LostTable;") (by decide +kernel)
  have cl_9 := hts (.classLink RX2 9 RX3) (by decide +kernel)
  have ins_X3 := hts (.instantiable RX3 2) (by decide +kernel)
  have ini_X3 := hts (.initialized RX3) (by decide +kernel)
  have in_X3 : ∀ w ∈ wsX30, w ∈ wsX2_tableOf := by decide +kernel
  have im_X3_init := hts (.instanceMethod yX3_init) (by decide +kernel)
  have ml_63 := hts (.methodLink RX2 63 yX3_init) (by decide +kernel)
  obtain ⟨ft, hTM, ht2, ht3⟩ := hW0
  have hbn : bN mi ≤ 1 := by cases mi <;> decide
  refine lv_iconst (v := 2) hx hb dX2_tableOf_0 (by decide) ?_
  refine lv_iload_n hx hb dX2_tableOf_1 rfl (lv_at hl 1 rfl) ?_
  refine lv_i2l hx hb dX2_tableOf_2 rfl ?_
  refine lv_lconst (v := 0) hx hb dX2_tableOf_3 (by decide) ?_
  refine lv_ldc2 hx hb hown cst_53 dX2_tableOf_4 ?_
  refine cpSN (As := [.long ((1 : Int32).toInt64), .long 0, .long 3]) (rest := [.int 2]) (k_X8_isWithin l D cA _ (1 : Int32).toInt64 0 3) ⟨hx, hb, hml, hown, hts⟩ ⟨va_cnB 3 hts gX2_tableOf_X8_isWithin_n55 rfl rfl rfl nl_55 ni_X8 (by decide +kernel) ⟨by decide, by decide⟩, ns_55, trivial⟩ hK hM rfl hl.1 rfl (Nat.le_of_ble_eq_true rfl) dX2_tableOf_7 ⟨by decide, by decide⟩ ?_
  refine bz_eq (tgt := 17) hx hb dX2_tableOf_10 (by decide) (fun c_10 n_10 => ?_) (fun c_10 n_10 => ?_)
  · exact absurd c_10 (by decide)
  · skip
    refine lv_iload_n hx hb dX2_tableOf_13 rfl (lv_at hl 1 rfl) ?_
    refine lv_goto (tgt := 18) hx hb dX2_tableOf_14 (by decide) ?_
    refine lv_imul hx hb dX2_tableOf_18 ?_
    refine tpi (x' := nI 2) (by decide) ?_
    refine lv_iload_n hx hb dX2_tableOf_19 rfl (lv_at hl 2 rfl) ?_
    refine cpSN (As := [.int (bI mi)]) (rest := [.int (nI 2)]) (k_X8_oneIf l D cA _ mi) ⟨hx, hb, hml, hown, hts⟩ ⟨va_cnB 1 hts gX2_tableOf_X8_oneIf_n59 rfl rfl rfl nl_59 ni_X8 (by decide +kernel) ⟨by decide, by decide⟩, ns_59, trivial⟩ hK hM rfl hl.1 rfl (Nat.le_of_ble_eq_true rfl) dX2_tableOf_20 ⟨by decide, by decide⟩ ?_
    refine lv_iadd hx hb dX2_tableOf_23 ?_
    refine tpi (x' := nI (2 + bN mi)) (nI_bN _ _) ?_
    refine lv_istore_n (lv' := [(3, .int (nI (2 + bN mi))), (0, .ref J), (1, .int 1), (2, .int (bI mi))]) hx hb dX2_tableOf_24 rfl hl (by decide) rfl (fun ls hl => ?_)
    refine lv_aload_n hx hb dX2_tableOf_25 rfl (lv_at hl 1 rfl) ?_
    refine m_get (ci := 2) (C := RX2) (T := TX2) (N := 5) (v := .ref TM) hx hb hts in_X2 hown hK hM hj rfl 4 (by decide) fl_11 (fun _ h => h) rfl dX2_tableOf_26 ?_
    refine lv_iload_n hx hb dX2_tableOf_29 rfl (lv_at hl 0 rfl) ?_
    refine m_aldTN (k := 2 + bN mi) hx hb hK hM hTM (rfl) (by omega) (by decide) dX2_tableOf_30 ?_
    cases hft : ft (2 + bN mi) with
    | none =>
      refine tpv (x' := .null) rfl ?_
      refine lv_astoreN (lv' := [(4, .null), (3, .int (nI (2 + bN mi))), (0, .ref J), (1, .int 1), (2, .int (bI mi))]) hx hb dX2_tableOf_31 hl (by decide) rfl (fun ls hl => ?_)
      refine lv_aloadN hx hb dX2_tableOf_33 (lv_at hl 0 rfl) ?_
      refine lv_ifnonnullN hx hb dX2_tableOf_35 ?_
      have hM0 := hM
      have hj0 := hj
      have hTM0 := hTM
      have hho := hh
      refine m_new (ci := 3) (fs := [.int 0, .null]) (C := RX3) (T := TX3) (N := 2) hx hb hts in_X3 tyX3 tyX3_ok hown cl_9 ins_X3 ini_X3 hK hh rfl (fun j hj => by rcases (show j = 0 ∨ j = 1 by omega) with rfl | rfl <;> rfl) (by decide) (by decide) dX2_tableOf_38 (fun sa M1 H1 hq e1 hh => ?_)
      have hkp := hkp.new hM hq e1
      have hf_sa : M sa = none := by rw [hq]; exact hho.new0 hM_0
      have hj := mu_kp e1 (by rw [hq]; exact hM.ne hj) hj
      have hTM := mu_kp e1 (by rw [hq]; exact hM.ne hTM) hTM
      have hS := mu_at e1
      have hS : M1 sa = some (.inr (3, [.int 0, .null])) := hS
      have hM := hh.1
      refine W.widen (k := 1) (n := 2) (by decide) (by decide) ?_
      refine lv_dup hx hb dX2_tableOf_41 rfl ?_
      refine lv_iload_n hx hb dX2_tableOf_42 rfl (lv_at hl 3 rfl) ?_
      refine lv_iload_n hx hb dX2_tableOf_43 rfl (lv_at hl 4 rfl) ?_
      refine cmI (As := [.int 1, .int (bI mi)]) (rest := [.ref sa]) (k_X3_init1 l D cA _ sa mi hS) ⟨hx, hb, hml, hown, hts⟩ (cwI 2 hts gX2_tableOf_X3_init rfl rfl rfl ini_X3 ml_63 im_X3_init rfl (by decide +kernel) ⟨by decide, by decide⟩) hK hh rfl hl.1 rfl (Nat.le_of_ble_eq_true rfl) dX2_tableOf_44 ⟨by decide, by decide⟩ (fun v9 M1 H1 locs1 hpost hh hz9 hk9 hn9 => ?_)
      obtain ⟨rfl, hsw, hkc⟩ := hpost
      obtain ⟨la, f, hS1, hla1, hf⟩ := hsw
      have hkp : kpL M M1 [TM] := hkp.callN hkc hf_sa
      have hj : M1 J = some (.inr (2, [.ref TG, .ref GO, .ref SG, .ref BG, .ref TM])) := hkc _ _ hj (ni1 (by rw [hq]; exact hM0.ne hj0))
      have hTM : M1 TM = some (.inl (cA 4, 8, .inr (.inr (.inr (.inr ft))))) := hkc _ _ hTM (ni1 (by rw [hq]; exact hM0.ne hTM0))
      have hS : M1 sa = some (.inr (3, [.int 0, .ref la])) := hS1
      have hla : M1 la = some (.inl (cA 0, 61, .inr (.inl f))) := hla1
      have hM := hh.1
      refine W.widen (k := 2) (n := 123) (by decide) (by decide) ?_
      refine W.eq (g2 := F0 m 47 ls [.ref sa]) rfl ?_
      refine lv_astore (lv' := [(4, .ref sa), (3, .int (nI (2 + bN mi))), (0, .ref J), (1, .int 1), (2, .int (bI mi))]) hx hb dX2_tableOf_47 hl (by decide) rfl (fun ls hl => ?_)
      refine lv_aload_n hx hb dX2_tableOf_49 rfl (lv_at hl 2 rfl) ?_
      refine m_get (ci := 2) (C := RX2) (T := TX2) (N := 5) (v := .ref TM) hx hb hts in_X2 hown hK hM hj rfl 4 (by decide) fl_11 (fun _ h => h) rfl dX2_tableOf_50 ?_
      refine lv_iload_n hx hb dX2_tableOf_53 rfl (lv_at hl 1 rfl) ?_
      refine lv_aload hx hb dX2_tableOf_54 (lv_at hl 0 rfl) ?_
      refine m_astqN 4 (k := 2 + bN mi) rfl hx hb hK hh hTM hS rfl (rfl) (by omega) (by decide) dX2_tableOf_56 (fun M1 H1 locs1 e1 hh => ?_)
      have hj := mu_kp e1 (mp_ne hj hTM (by simp)) hj
      have hS := mu_kp e1 (mp_ne hS hTM (by simp)) hS
      have hla := mu_kp e1 (mp_ne hla hTM (by simp)) hla
      have hTM := mu_at e1
      have hkp := hkp.put e1 (by simp)
      have hTM : M1 TM = some (.inl (cA 4, 8, .inr (.inr (.inr (.inr (va_up ft (2 + bN mi) (some sa))))))) := hTM
      have hM := hh.1
      refine lv_aload hx hb dX2_tableOf_57 (lv_at hl 0 rfl) ?_
      exact hreta _ _ _ _ _ _ _ _ _ hh (⟨⟨sa, rfl, la, f, hS, hla, hf⟩, ⟨_, hTM, (fun g1 m1 a1 q1 w1 => by by_cases e9 : 2 * g1 + bN m1 = 2 + bN mi; (exact by have hb1 : bN m1 ≤ 1 := (by cases m1 <;> decide); have hb2 : bN mi ≤ 1 := (by cases mi <;> decide); have e7 : g1 = 1 := (by omega); have e8 : m1 = mi := bN_inj (by omega); rw [e7, e8, va_up_self] at w1; cases w1; rw [e7, e8]; exact ⟨la, f, hS, hla, hf⟩); (rw [va_up_ne _ _ e9] at w1; exact (ht2 g1 m1 a1 q1 w1).kp (kpI.of1 hkp hTM0 (fun z => z)))), (fun m1 a1 w1 => by by_cases e9 : 6 + bN m1 = 2 + bN mi; (exact absurd e9 (by have h1 : bN mi ≤ 1 := (by cases mi <;> decide); omega)); (rw [va_up_ne _ _ e9] at w1; exact (ht3 m1 a1 w1).kp (kpI.of1 hkp hTM0 (fun z => z))))⟩, hkp⟩) (by decide) (by decide) dX2_tableOf_59 rfl
    | some sa =>
      refine tpv (x' := .ref sa) rfl ?_
      refine lv_astore (lv' := [(4, .ref sa), (3, .int (nI (2 + bN mi))), (0, .ref J), (1, .int 1), (2, .int (bI mi))]) hx hb dX2_tableOf_31 hl (by decide) rfl (fun ls hl => ?_)
      refine lv_aload hx hb dX2_tableOf_33 (lv_at hl 0 rfl) ?_
      refine lv_ifnonnull (tgt := 57) hx hb dX2_tableOf_35 (by decide) ?_
      refine lv_aload hx hb dX2_tableOf_57 (lv_at hl 0 rfl) ?_
      exact hreta _ _ _ _ _ _ _ _ _ hh (⟨⟨sa, rfl, ht2 1 mi sa (by decide) hft⟩, ⟨ft, hTM, ht2, ht3⟩, hkp⟩) (by decide) (by decide) dX2_tableOf_59 rfl
set_option maxHeartbeats 1000000 in
set_option maxRecDepth 100000 in
theorem k_X2_tableOf3 (l : Launch) (D : va_G) (cA : Nat → ClassId) (M : mp) (J TG GO SG BG TM : Nat) (mi : Bool) (hj : M J = some (.inr (2, [.ref TG, .ref GO, .ref SG, .ref BG, .ref TM]))) (hW0 : tmW cA M TM) : MC l D cA yX2_tableOf wsX2_tableOf 3 90 3 123 [.ref J, .int 3, .int (bI mi)] M (fun r M' => (∃ a, r = some (.ref a) ∧ tab3 cA M' mi a) ∧ tmW cA M' TM ∧ kpL M M' [TM]) := by
  refine MC.of (cc := cX2_tableOf) (maxL := 5) (ret := (some (.object "GoldHeaps$LostTable"))) (by decide) rfl (Nat.le_of_ble_eq_true rfl) ?_
  intro p e s m args below meth c Q ls B hh hl hretv hreti hretz hretl hreta
  obtain ⟨hx, hb, hown, hts, hml, hK, hin⟩ := B
  have hM := hh.1
  have hM_0 := hh.1
  have hkp : kpL M M [TM] := kpL.rf M _
  have hown : s.vm.findClass RX2 = some m.cls := hown
  have hl : lv_has ls 5 [(0, .ref J), (1, .int 3), (2, .int (bI mi))] := hl
  have cst_53 := hts (.constantLong RX2 53 (3)) (by decide +kernel)
  have nl_55 := hK.2.1 (.methodLinkNest RX2 55 yX8_isWithin "GoldHeaps") (by decide +kernel)
  have ni_X8 := hts (.initialized RX8) (by decide +kernel)
  have ns_55 := hts (.static yX8_isWithin) (by decide +kernel)
  have nl_59 := hK.2.1 (.methodLinkNest RX2 59 yX8_oneIf "GoldHeaps") (by decide +kernel)
  have ns_59 := hts (.static yX8_oneIf) (by decide +kernel)
  have in_X2 : ∀ w ∈ wsX20, w ∈ wsX2_tableOf := by decide +kernel
  have fl_11 := hts (.fieldLink RX2 11 "GoldHeaps$Judge" "tablesMade" "[LGoldHeaps$LostTable;") (by decide +kernel)
  have cl_9 := hts (.classLink RX2 9 RX3) (by decide +kernel)
  have ins_X3 := hts (.instantiable RX3 2) (by decide +kernel)
  have ini_X3 := hts (.initialized RX3) (by decide +kernel)
  have in_X3 : ∀ w ∈ wsX30, w ∈ wsX2_tableOf := by decide +kernel
  have im_X3_init := hts (.instanceMethod yX3_init) (by decide +kernel)
  have ml_63 := hts (.methodLink RX2 63 yX3_init) (by decide +kernel)
  obtain ⟨ft, hTM, ht2, ht3⟩ := hW0
  have hbn : bN mi ≤ 1 := by cases mi <;> decide
  refine lv_iconst (v := 2) hx hb dX2_tableOf_0 (by decide) ?_
  refine lv_iload_n hx hb dX2_tableOf_1 rfl (lv_at hl 1 rfl) ?_
  refine lv_i2l hx hb dX2_tableOf_2 rfl ?_
  refine lv_lconst (v := 0) hx hb dX2_tableOf_3 (by decide) ?_
  refine lv_ldc2 hx hb hown cst_53 dX2_tableOf_4 ?_
  refine cpSN (As := [.long ((3 : Int32).toInt64), .long 0, .long 3]) (rest := [.int 2]) (k_X8_isWithin l D cA _ (3 : Int32).toInt64 0 3) ⟨hx, hb, hml, hown, hts⟩ ⟨va_cnB 3 hts gX2_tableOf_X8_isWithin_n55 rfl rfl rfl nl_55 ni_X8 (by decide +kernel) ⟨by decide, by decide⟩, ns_55, trivial⟩ hK hM rfl hl.1 rfl (Nat.le_of_ble_eq_true rfl) dX2_tableOf_7 ⟨by decide, by decide⟩ ?_
  refine bz_eq (tgt := 17) hx hb dX2_tableOf_10 (by decide) (fun c_10 n_10 => ?_) (fun c_10 n_10 => ?_)
  · exact absurd c_10 (by decide)
  · skip
    refine lv_iload_n hx hb dX2_tableOf_13 rfl (lv_at hl 1 rfl) ?_
    refine lv_goto (tgt := 18) hx hb dX2_tableOf_14 (by decide) ?_
    refine lv_imul hx hb dX2_tableOf_18 ?_
    refine tpi (x' := nI 6) (by decide) ?_
    refine lv_iload_n hx hb dX2_tableOf_19 rfl (lv_at hl 2 rfl) ?_
    refine cpSN (As := [.int (bI mi)]) (rest := [.int (nI 6)]) (k_X8_oneIf l D cA _ mi) ⟨hx, hb, hml, hown, hts⟩ ⟨va_cnB 1 hts gX2_tableOf_X8_oneIf_n59 rfl rfl rfl nl_59 ni_X8 (by decide +kernel) ⟨by decide, by decide⟩, ns_59, trivial⟩ hK hM rfl hl.1 rfl (Nat.le_of_ble_eq_true rfl) dX2_tableOf_20 ⟨by decide, by decide⟩ ?_
    refine lv_iadd hx hb dX2_tableOf_23 ?_
    refine tpi (x' := nI (6 + bN mi)) (nI_bN _ _) ?_
    refine lv_istore_n (lv' := [(3, .int (nI (6 + bN mi))), (0, .ref J), (1, .int 3), (2, .int (bI mi))]) hx hb dX2_tableOf_24 rfl hl (by decide) rfl (fun ls hl => ?_)
    refine lv_aload_n hx hb dX2_tableOf_25 rfl (lv_at hl 1 rfl) ?_
    refine m_get (ci := 2) (C := RX2) (T := TX2) (N := 5) (v := .ref TM) hx hb hts in_X2 hown hK hM hj rfl 4 (by decide) fl_11 (fun _ h => h) rfl dX2_tableOf_26 ?_
    refine lv_iload_n hx hb dX2_tableOf_29 rfl (lv_at hl 0 rfl) ?_
    refine m_aldTN (k := 6 + bN mi) hx hb hK hM hTM (rfl) (by omega) (by decide) dX2_tableOf_30 ?_
    cases hft : ft (6 + bN mi) with
    | none =>
      refine tpv (x' := .null) rfl ?_
      refine lv_astoreN (lv' := [(4, .null), (3, .int (nI (6 + bN mi))), (0, .ref J), (1, .int 3), (2, .int (bI mi))]) hx hb dX2_tableOf_31 hl (by decide) rfl (fun ls hl => ?_)
      refine lv_aloadN hx hb dX2_tableOf_33 (lv_at hl 0 rfl) ?_
      refine lv_ifnonnullN hx hb dX2_tableOf_35 ?_
      have hM0 := hM
      have hj0 := hj
      have hTM0 := hTM
      have hho := hh
      refine m_new (ci := 3) (fs := [.int 0, .null]) (C := RX3) (T := TX3) (N := 2) hx hb hts in_X3 tyX3 tyX3_ok hown cl_9 ins_X3 ini_X3 hK hh rfl (fun j hj => by rcases (show j = 0 ∨ j = 1 by omega) with rfl | rfl <;> rfl) (by decide) (by decide) dX2_tableOf_38 (fun sa M1 H1 hq e1 hh => ?_)
      have hkp := hkp.new hM hq e1
      have hf_sa : M sa = none := by rw [hq]; exact hho.new0 hM_0
      have hj := mu_kp e1 (by rw [hq]; exact hM.ne hj) hj
      have hTM := mu_kp e1 (by rw [hq]; exact hM.ne hTM) hTM
      have hS := mu_at e1
      have hS : M1 sa = some (.inr (3, [.int 0, .null])) := hS
      have hM := hh.1
      refine W.widen (k := 1) (n := 2) (by decide) (by decide) ?_
      refine lv_dup hx hb dX2_tableOf_41 rfl ?_
      refine lv_iload_n hx hb dX2_tableOf_42 rfl (lv_at hl 3 rfl) ?_
      refine lv_iload_n hx hb dX2_tableOf_43 rfl (lv_at hl 4 rfl) ?_
      refine cmI (As := [.int 3, .int (bI mi)]) (rest := [.ref sa]) (k_X3_init3 l D cA _ sa mi hS) ⟨hx, hb, hml, hown, hts⟩ (cwI 2 hts gX2_tableOf_X3_init rfl rfl rfl ini_X3 ml_63 im_X3_init rfl (by decide +kernel) ⟨by decide, by decide⟩) hK hh rfl hl.1 rfl (Nat.le_of_ble_eq_true rfl) dX2_tableOf_44 ⟨by decide, by decide⟩ (fun v9 M1 H1 locs1 hpost hh hz9 hk9 hn9 => ?_)
      obtain ⟨rfl, hsw, hkc⟩ := hpost
      obtain ⟨la, f, hS1, hla1, hf⟩ := hsw
      have hkp : kpL M M1 [TM] := hkp.callN hkc hf_sa
      have hj : M1 J = some (.inr (2, [.ref TG, .ref GO, .ref SG, .ref BG, .ref TM])) := hkc _ _ hj (ni1 (by rw [hq]; exact hM0.ne hj0))
      have hTM : M1 TM = some (.inl (cA 4, 8, .inr (.inr (.inr (.inr ft))))) := hkc _ _ hTM (ni1 (by rw [hq]; exact hM0.ne hTM0))
      have hS : M1 sa = some (.inr (3, [.int 1, .ref la])) := hS1
      have hla : M1 la = some (.inl (cA 0, 121, .inr (.inl f))) := hla1
      have hM := hh.1
      refine W.widen (k := 2) (n := 123) (by decide) (by decide) ?_
      refine W.eq (g2 := F0 m 47 ls [.ref sa]) rfl ?_
      refine lv_astore (lv' := [(4, .ref sa), (3, .int (nI (6 + bN mi))), (0, .ref J), (1, .int 3), (2, .int (bI mi))]) hx hb dX2_tableOf_47 hl (by decide) rfl (fun ls hl => ?_)
      refine lv_aload_n hx hb dX2_tableOf_49 rfl (lv_at hl 2 rfl) ?_
      refine m_get (ci := 2) (C := RX2) (T := TX2) (N := 5) (v := .ref TM) hx hb hts in_X2 hown hK hM hj rfl 4 (by decide) fl_11 (fun _ h => h) rfl dX2_tableOf_50 ?_
      refine lv_iload_n hx hb dX2_tableOf_53 rfl (lv_at hl 1 rfl) ?_
      refine lv_aload hx hb dX2_tableOf_54 (lv_at hl 0 rfl) ?_
      refine m_astqN 4 (k := 6 + bN mi) rfl hx hb hK hh hTM hS rfl (rfl) (by omega) (by decide) dX2_tableOf_56 (fun M1 H1 locs1 e1 hh => ?_)
      have hj := mu_kp e1 (mp_ne hj hTM (by simp)) hj
      have hS := mu_kp e1 (mp_ne hS hTM (by simp)) hS
      have hla := mu_kp e1 (mp_ne hla hTM (by simp)) hla
      have hTM := mu_at e1
      have hkp := hkp.put e1 (by simp)
      have hTM : M1 TM = some (.inl (cA 4, 8, .inr (.inr (.inr (.inr (va_up ft (6 + bN mi) (some sa))))))) := hTM
      have hM := hh.1
      refine lv_aload hx hb dX2_tableOf_57 (lv_at hl 0 rfl) ?_
      exact hreta _ _ _ _ _ _ _ _ _ hh (⟨⟨sa, rfl, la, f, hS, hla, hf⟩, ⟨_, hTM, (fun g1 m1 a1 q1 w1 => by by_cases e9 : 2 * g1 + bN m1 = 6 + bN mi; (exact absurd e9 (by have h1 : bN m1 ≤ 1 := (by cases m1 <;> decide); omega)); (rw [va_up_ne _ _ e9] at w1; exact (ht2 g1 m1 a1 q1 w1).kp (kpI.of1 hkp hTM0 (fun z => z)))), (fun m1 a1 w1 => by by_cases e9 : 6 + bN m1 = 6 + bN mi; (exact by have e8 : m1 = mi := bN_inj (by omega); rw [e8, va_up_self] at w1; cases w1; rw [e8]; exact ⟨la, f, hS, hla, hf⟩); (rw [va_up_ne _ _ e9] at w1; exact (ht3 m1 a1 w1).kp (kpI.of1 hkp hTM0 (fun z => z))))⟩, hkp⟩) (by decide) (by decide) dX2_tableOf_59 rfl
    | some sa =>
      refine tpv (x' := .ref sa) rfl ?_
      refine lv_astore (lv' := [(4, .ref sa), (3, .int (nI (6 + bN mi))), (0, .ref J), (1, .int 3), (2, .int (bI mi))]) hx hb dX2_tableOf_31 hl (by decide) rfl (fun ls hl => ?_)
      refine lv_aload hx hb dX2_tableOf_33 (lv_at hl 0 rfl) ?_
      refine lv_ifnonnull (tgt := 57) hx hb dX2_tableOf_35 (by decide) ?_
      refine lv_aload hx hb dX2_tableOf_57 (lv_at hl 0 rfl) ?_
      exact hreta _ _ _ _ _ _ _ _ _ hh (⟨⟨sa, rfl, ht3 mi sa hft⟩, ⟨ft, hTM, ht2, ht3⟩, hkp⟩) (by decide) (by decide) dX2_tableOf_59 rfl
