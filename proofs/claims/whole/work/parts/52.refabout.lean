set_option maxHeartbeats 1000000 in
set_option maxRecDepth 100000 in
theorem k_X9_about (l : Launch) (D : va_G) (cA : Nat → ClassId) (M : mp) (m0 fb ra wn ov th it td hp bd fl : Nat) (v : Nat → Value) (fh fb2 : Nat → Int64) (ff : Nat → Int32) (g t mv : Nat) (mi : Bool) (hv : Nat → Nat) (bv : Nat) (fcv : Nat) (w : Int32)  (hA : rfA cA M m0 fb ra wn ov th it td hp bd fl v fh fb2 ff) (hv8 : v 8 = .int (nI g)) (hv9 : v 9 = .int (bI mi)) (hv10 : v 10 = .int (nI t)) (hv11 : v 11 = .int (nI mv)) (hfh : ∀ k, k < 3 → fh (3 * mv + k) = lN (hv k)) (hmv : mv ≤ 200) (hfb : fb2 mv = lN bv) (hok : okB g t mi hv) (hbv : bv ≤ 1000000000000) (hff : ff mv = nI fcv) (hfc : fcv ≤ 200)  : MC l D cA yX9_about wsX9_about 4 97 0 0 [.ref m0, .int w] M (fun r M' => r = some (.long (tlV g mi t mv hv bv fcv w)) ∧ (∃ v', rfA cA M' m0 fb ra wn ov th it td hp bd fl v' fh fb2 ff ∧ agS v v') ∧ kpL M M' [m0, ra, wn, ov, th, it]) := by
  refine MC.of (cc := cX9_about) (maxL := 2) (ret := (some .long)) (by decide) rfl (Nat.le_of_ble_eq_true rfl) ?_
  intro p e s m args below meth c Q ls B hh hl hretv hreti hretz hretl hreta
  obtain ⟨hx, hb, hown, hts, hml, hK, hin⟩ := B
  have hM := hh.1
  have hM_0 := hh.1
  have hkp : kpL M M [m0, ra, wn, ov, th, it] := kpL.rf M _
  have hown : s.vm.findClass RX9 = some m.cls := hown
  have hl : lv_has ls 2 [(0, .ref m0), (1, .int w)] := hl
  have cst_62 := hts (.constantLong RX9 62 (-2)) (by decide +kernel)
  have in_X9 : ∀ w ∈ wsX90, w ∈ wsX9_about := by decide +kernel
  have fl_39 := hts (.fieldLink RX9 39 "GoldHeapsModel" "bounds" "[J") (by decide +kernel)
  have fl_144 := hts (.fieldLink RX9 144 "GoldHeapsModel" "moves" "I") (by decide +kernel)
  have fl_42 := hts (.fieldLink RX9 42 "GoldHeapsModel" "faults" "[I") (by decide +kernel)
  have fl_32 := hts (.fieldLink RX9 32 "GoldHeapsModel" "game" "I") (by decide +kernel)
  obtain ⟨hR, ⟨hv0, hv1, hv3, hv4, hv5, hv6, hv7, hv12, hv13, hv14⟩, ⟨f, hfb0, hfib⟩, ⟨f0, hrw⟩, hRT, ⟨fd, htd⟩, hhp, hbd, hfl⟩ := id hA
  have hg3 := hok.1
  have hhv := hok.2.1
  have hb0_ := hhv 0
  have hb1_ := hhv 1
  have hb2_ := hhv 2
  refine lv_iload_n hx hb dX9_about_0 rfl (lv_at hl 1 rfl) ?_
  by_cases hlo : w.toInt < 0
  · refine lv_tableOut (tgt := 112) hx hb dX9_about_1 (Or.inl hlo) (by decide) ?_
    have hbad : ∀ k : Nat, k < 9 → ¬ w = nI k := fun k hk z => by rw [z, nI_toInt (by omega)] at hlo; omega
    refine lv_ldc2 hx hb hown cst_62 dX9_about_112 ?_
    exact hretl _ _ _ _ _ _ _ _ hh (⟨by unfold tlV; rw [if_neg (show ¬ w = 0 from hbad 0 (by decide)), if_neg (show ¬ w = 1 from hbad 1 (by decide)), if_neg (show ¬ w = 2 from hbad 2 (by decide)), if_neg (show ¬ w = 3 from hbad 3 (by decide)), if_neg (show ¬ w = 4 from hbad 4 (by decide)), if_neg (show ¬ w = 5 from hbad 5 (by decide)), if_neg (show ¬ w = 6 from hbad 6 (by decide)), if_neg (show ¬ w = 7 from hbad 7 (by decide)), if_neg (show ¬ w = 8 from hbad 8 (by decide))], ⟨v, hA, agS.rf v⟩, hkp⟩) (by decide) (by decide) dX9_about_115 rfl
  · by_cases hhi : 8 < w.toInt
    · refine lv_tableOut (tgt := 112) hx hb dX9_about_1 (Or.inr hhi) (by decide) ?_
      have hbad : ∀ k : Nat, k < 9 → ¬ w = nI k := fun k hk z => by rw [z, nI_toInt (by omega)] at hhi; omega
      refine lv_ldc2 hx hb hown cst_62 dX9_about_112 ?_
      exact hretl _ _ _ _ _ _ _ _ hh (⟨by unfold tlV; rw [if_neg (show ¬ w = 0 from hbad 0 (by decide)), if_neg (show ¬ w = 1 from hbad 1 (by decide)), if_neg (show ¬ w = 2 from hbad 2 (by decide)), if_neg (show ¬ w = 3 from hbad 3 (by decide)), if_neg (show ¬ w = 4 from hbad 4 (by decide)), if_neg (show ¬ w = 5 from hbad 5 (by decide)), if_neg (show ¬ w = 6 from hbad 6 (by decide)), if_neg (show ¬ w = 7 from hbad 7 (by decide)), if_neg (show ¬ w = 8 from hbad 8 (by decide))], ⟨v, hA, agS.rf v⟩, hkp⟩) (by decide) (by decide) dX9_about_115 rfl
    · rcases (show w.toInt = 0 ∨ w.toInt = 1 ∨ w.toInt = 2 ∨ w.toInt = 3 ∨ w.toInt = 4 ∨ w.toInt = 5 ∨ w.toInt = 6 ∨ w.toInt = 7 ∨ w.toInt = 8 by omega) with hw | hw | hw | hw | hw | hw | hw | hw | hw
      · have ew : w = nI 0 := sw_i (by decide) hw
        refine lv_tableIn (tgt := 52) (off := 51) hx hb dX9_about_1 hlo hhi (by rw [hw]; rfl) (by decide) ?_
        refine lv_aload_n hx hb dX9_about_52 rfl (lv_at hl 0 rfl) ?_
        refine lv_iload_n hx hb dX9_about_53 rfl (lv_at hl 1 rfl) ?_
        refine tpi (x' := nI 0) (ew) ?_
        refine cpV (As := [.int (nI 0)]) (rest := []) (k_X9_heap l D cA _ m0 hp v fh mv (0) hv hR hv11 hv12 hhp hfh hmv (by decide)) ⟨hx, hb, hml, hown, hts⟩ (cwV 1 hts gX9_about_X9_heap rfl rfl rfl (by decide +kernel) ⟨by decide, by decide⟩) hK hM hR rfl rfl hl.1 rfl (Nat.le_of_ble_eq_true rfl) dX9_about_54 ⟨by decide, by decide⟩ ?_
        exact hretl _ _ _ _ _ _ _ _ hh (⟨by rw [ew]; rfl, ⟨v, hA, agS.rf v⟩, hkp⟩) (by decide) (by decide) dX9_about_57 rfl
      · have ew : w = nI 1 := sw_i (by decide) hw
        refine lv_tableIn (tgt := 52) (off := 51) hx hb dX9_about_1 hlo hhi (by rw [hw]; rfl) (by decide) ?_
        refine lv_aload_n hx hb dX9_about_52 rfl (lv_at hl 0 rfl) ?_
        refine lv_iload_n hx hb dX9_about_53 rfl (lv_at hl 1 rfl) ?_
        refine tpi (x' := nI 1) (ew) ?_
        refine cpV (As := [.int (nI 1)]) (rest := []) (k_X9_heap l D cA _ m0 hp v fh mv (1) hv hR hv11 hv12 hhp hfh hmv (by decide)) ⟨hx, hb, hml, hown, hts⟩ (cwV 1 hts gX9_about_X9_heap rfl rfl rfl (by decide +kernel) ⟨by decide, by decide⟩) hK hM hR rfl rfl hl.1 rfl (Nat.le_of_ble_eq_true rfl) dX9_about_54 ⟨by decide, by decide⟩ ?_
        exact hretl _ _ _ _ _ _ _ _ hh (⟨by rw [ew]; rfl, ⟨v, hA, agS.rf v⟩, hkp⟩) (by decide) (by decide) dX9_about_57 rfl
      · have ew : w = nI 2 := sw_i (by decide) hw
        refine lv_tableIn (tgt := 52) (off := 51) hx hb dX9_about_1 hlo hhi (by rw [hw]; rfl) (by decide) ?_
        refine lv_aload_n hx hb dX9_about_52 rfl (lv_at hl 0 rfl) ?_
        refine lv_iload_n hx hb dX9_about_53 rfl (lv_at hl 1 rfl) ?_
        refine tpi (x' := nI 2) (ew) ?_
        refine cpV (As := [.int (nI 2)]) (rest := []) (k_X9_heap l D cA _ m0 hp v fh mv (2) hv hR hv11 hv12 hhp hfh hmv (by decide)) ⟨hx, hb, hml, hown, hts⟩ (cwV 1 hts gX9_about_X9_heap rfl rfl rfl (by decide +kernel) ⟨by decide, by decide⟩) hK hM hR rfl rfl hl.1 rfl (Nat.le_of_ble_eq_true rfl) dX9_about_54 ⟨by decide, by decide⟩ ?_
        exact hretl _ _ _ _ _ _ _ _ hh (⟨by rw [ew]; rfl, ⟨v, hA, agS.rf v⟩, hkp⟩) (by decide) (by decide) dX9_about_57 rfl
      · have ew : w = nI 3 := sw_i (by decide) hw
        refine lv_tableIn (tgt := 58) (off := 57) hx hb dX9_about_1 hlo hhi (by rw [hw]; rfl) (by decide) ?_
        refine lv_aload_n hx hb dX9_about_58 rfl (lv_at hl 0 rfl) ?_
        refine m_get (ci := 9) (C := RX9) (T := TX9) (N := 18) (v := v 13) hx hb hts in_X9 hown hK hM hR rfl 13 (by decide) fl_39 (fun _ h => h) rfl dX9_about_59 ?_
        refine tpv (hv13) ?_
        refine lv_aload_n hx hb dX9_about_62 rfl (lv_at hl 0 rfl) ?_
        refine m_get (ci := 9) (C := RX9) (T := TX9) (N := 18) (v := v 11) hx hb hts in_X9 hown hK hM hR rfl 11 (by decide) fl_144 (fun _ h => h) rfl dX9_about_63 ?_
        refine tpv (hv11) ?_
        refine m_laldN (k := mv) hx hb hK hM hbd (rfl) (by omega) (by decide) dX9_about_66 ?_
        refine tpl (x' := lN bv) (hfb) ?_
        exact hretl _ _ _ _ _ _ _ _ hh (⟨by rw [ew]; rfl, ⟨v, hA, agS.rf v⟩, hkp⟩) (by decide) (by decide) dX9_about_67 rfl
      · have ew : w = nI 4 := sw_i (by decide) hw
        refine lv_tableIn (tgt := 68) (off := 67) hx hb dX9_about_1 hlo hhi (by rw [hw]; rfl) (by decide) ?_
        refine lv_aload_n hx hb dX9_about_68 rfl (lv_at hl 0 rfl) ?_
        refine m_get (ci := 9) (C := RX9) (T := TX9) (N := 18) (v := v 11) hx hb hts in_X9 hown hK hM hR rfl 11 (by decide) fl_144 (fun _ h => h) rfl dX9_about_69 ?_
        refine tpv (hv11) ?_
        refine lv_i2l hx hb dX9_about_72 rfl ?_
        refine tpl (x' := lN mv) (nI_l (by omega)) ?_
        exact hretl _ _ _ _ _ _ _ _ hh (⟨by rw [ew]; rfl, ⟨v, hA, agS.rf v⟩, hkp⟩) (by decide) (by decide) dX9_about_73 rfl
      · have ew : w = nI 5 := sw_i (by decide) hw
        refine lv_tableIn (tgt := 74) (off := 73) hx hb dX9_about_1 hlo hhi (by rw [hw]; rfl) (by decide) ?_
        refine lv_aload_n hx hb dX9_about_74 rfl (lv_at hl 0 rfl) ?_
        refine cmV (As := []) (rest := []) (k_X9_isWon l D cA _ m0 fb ra wn ov th it td hp bd fl v fh fb2 ff g t mv mi hv bv hA hv8 hv9 hv10 hv11 hfh hmv hfb hok hbv) ⟨hx, hb, hml, hown, hts⟩ (cwV 0 hts gX9_about_X9_isWon rfl rfl rfl (by decide +kernel) ⟨by decide, by decide⟩) hK hh hR rfl rfl hl.1 rfl (Nat.le_of_ble_eq_true rfl) dX9_about_75 ⟨by decide, by decide⟩ (fun v9 M1 H1 locs1 hpost hh hz9 hk9 hn9 => ?_)
        obtain ⟨rfl, hA1, hkc⟩ := hpost
        have hkp := hkp.call hkc (by simp)
        have hM := hh.1
        refine W.eq (g2 := F0 m 78 ls [.int (bI (wnF g mi t hv bv))]) rfl ?_
        refine bz_eq (tgt := 85) hx hb dX9_about_78 (by decide) (fun c_78 n_78 => ?_) (fun c_78 n_78 => ?_)
        · skip
          have h5 := bI_eq0 c_78
          refine lv_lconst (v := 0) hx hb dX9_about_85 (by decide) ?_
          exact hretl _ _ _ _ _ _ _ _ hh (⟨by rw [ew]; show _ = some (Value.long ((bI (wnF g mi t hv bv)).toInt64)); rw [h5]; rfl, hA1, hkp⟩) (by decide) (by decide) dX9_about_86 rfl
        · skip
          have h5 := bI_ne0 c_78
          refine lv_lconst (v := 1) hx hb dX9_about_81 (by decide) ?_
          refine lv_goto (tgt := 86) hx hb dX9_about_82 (by decide) ?_
          exact hretl _ _ _ _ _ _ _ _ hh (⟨by rw [ew]; show _ = some (Value.long ((bI (wnF g mi t hv bv)).toInt64)); rw [h5]; rfl, hA1, hkp⟩) (by decide) (by decide) dX9_about_86 rfl
      · have ew : w = nI 6 := sw_i (by decide) hw
        refine lv_tableIn (tgt := 87) (off := 86) hx hb dX9_about_1 hlo hhi (by rw [hw]; rfl) (by decide) ?_
        refine lv_aload_n hx hb dX9_about_87 rfl (lv_at hl 0 rfl) ?_
        refine m_get (ci := 9) (C := RX9) (T := TX9) (N := 18) (v := v 11) hx hb hts in_X9 hown hK hM hR rfl 11 (by decide) fl_144 (fun _ h => h) rfl dX9_about_88 ?_
        refine tpv (hv11) ?_
        refine lv_iconst (v := 2) hx hb dX9_about_91 (by decide) ?_
        refine lv_irem hx hb dX9_about_92 (by decide) ?_
        refine tpi (x' := nI (mv % 2)) (pk_rem (d := 2) (by omega) (by decide) (by decide)) ?_
        refine lv_i2l hx hb dX9_about_93 rfl ?_
        refine tpl (x' := lN (mv % 2)) (nI_l (by omega)) ?_
        exact hretl _ _ _ _ _ _ _ _ hh (⟨by rw [ew]; rfl, ⟨v, hA, agS.rf v⟩, hkp⟩) (by decide) (by decide) dX9_about_94 rfl
      · have ew : w = nI 7 := sw_i (by decide) hw
        refine lv_tableIn (tgt := 95) (off := 94) hx hb dX9_about_1 hlo hhi (by rw [hw]; rfl) (by decide) ?_
        refine lv_aload_n hx hb dX9_about_95 rfl (lv_at hl 0 rfl) ?_
        refine m_get (ci := 9) (C := RX9) (T := TX9) (N := 18) (v := v 14) hx hb hts in_X9 hown hK hM hR rfl 14 (by decide) fl_42 (fun _ h => h) rfl dX9_about_96 ?_
        refine tpv (hv14) ?_
        refine lv_aload_n hx hb dX9_about_99 rfl (lv_at hl 0 rfl) ?_
        refine m_get (ci := 9) (C := RX9) (T := TX9) (N := 18) (v := v 11) hx hb hts in_X9 hown hK hM hR rfl 11 (by decide) fl_144 (fun _ h => h) rfl dX9_about_100 ?_
        refine tpv (hv11) ?_
        refine m_ialdN (k := mv) hx hb hK hM hfl (rfl) (by omega) (by decide) dX9_about_103 ?_
        refine tpi (x' := nI fcv) (hff) ?_
        refine lv_i2l hx hb dX9_about_104 rfl ?_
        refine tpl (x' := lN fcv) (nI_l (by omega)) ?_
        exact hretl _ _ _ _ _ _ _ _ hh (⟨by rw [ew]; rfl, ⟨v, hA, agS.rf v⟩, hkp⟩) (by decide) (by decide) dX9_about_105 rfl
      · have ew : w = nI 8 := sw_i (by decide) hw
        refine lv_tableIn (tgt := 106) (off := 105) hx hb dX9_about_1 hlo hhi (by rw [hw]; rfl) (by decide) ?_
        refine lv_aload_n hx hb dX9_about_106 rfl (lv_at hl 0 rfl) ?_
        refine m_get (ci := 9) (C := RX9) (T := TX9) (N := 18) (v := v 8) hx hb hts in_X9 hown hK hM hR rfl 8 (by decide) fl_32 (fun _ h => h) rfl dX9_about_107 ?_
        refine tpv (hv8) ?_
        refine lv_i2l hx hb dX9_about_110 rfl ?_
        refine tpl (x' := lN g) (nI_l (by omega)) ?_
        exact hretl _ _ _ _ _ _ _ _ hh (⟨by rw [ew]; rfl, ⟨v, hA, agS.rf v⟩, hkp⟩) (by decide) (by decide) dX9_about_111 rfl
set_option maxHeartbeats 1000000 in
set_option maxRecDepth 100000 in
theorem k_X9_digest (l : Launch) (D : va_G) (cA : Nat → ClassId) (M : mp) (m0 fb ra wn ov th it td hp bd fl : Nat) (v : Nat → Value) (fh fb2 : Nat → Int64) (ff : Nat → Int32) (g t mv : Nat) (mi : Bool) (hv : Nat → Nat) (bv : Nat) (fcv : Nat)  (hA : rfA cA M m0 fb ra wn ov th it td hp bd fl v fh fb2 ff) (hv8 : v 8 = .int (nI g)) (hv9 : v 9 = .int (bI mi)) (hv10 : v 10 = .int (nI t)) (hv11 : v 11 = .int (nI mv)) (hfh : ∀ k, k < 3 → fh (3 * mv + k) = lN (hv k)) (hmv : mv ≤ 200) (hfb : fb2 mv = lN bv) (hok : okB g t mi hv) (hbv : bv ≤ 1000000000000) (hff : ff mv = nI fcv) (hfc : fcv ≤ 200)  : MC l D cA yX9_digest wsX9_digest 5 118 0 0 [.ref m0] M (fun r M' => r = some (.long (dgF (tlV g mi t mv hv bv fcv) 9)) ∧ (∃ v', rfA cA M' m0 fb ra wn ov th it td hp bd fl v' fh fb2 ff ∧ agS v v') ∧ kpL M M' [m0, ra, wn, ov, th, it]) := by
  refine MC.of (cc := cX9_digest) (maxL := 4) (ret := (some .long)) (by decide) rfl (Nat.le_of_ble_eq_true rfl) ?_
  intro p e s m args below meth c Q ls B hh hl hretv hreti hretz hretl hreta
  obtain ⟨hx, hb, hown, hts, hml, hK, hin⟩ := B
  have hM := hh.1
  have hM_0 := hh.1
  have hkp : kpL M M [m0, ra, wn, ov, th, it] := kpL.rf M _
  have hown : s.vm.findClass RX9 = some m.cls := hown
  have hl : lv_has ls 4 [(0, .ref m0)] := hl
  have cst_162 := hts (.constantLong RX9 162 (227)) (by decide +kernel)
  have cst_164 := hts (.constantLong RX9 164 (31)) (by decide +kernel)
  obtain ⟨hR, ⟨hv0, hv1, hv3, hv4, hv5, hv6, hv7, hv12, hv13, hv14⟩, ⟨f, hfb0, hfib⟩, ⟨f0, hrw⟩, hRT, ⟨fd, htd⟩, hhp, hbd, hfl⟩ := id hA
  have hg3 := hok.1
  have hhv := hok.2.1
  have hb0_ := hhv 0
  have hb1_ := hhv 1
  have hb2_ := hhv 2
  refine lv_ldc2 hx hb hown cst_162 dX9_digest_0 ?_
  refine tpl (x' := dgF (tlV g mi t mv hv bv fcv) 0) (rfl) ?_
  refine lv_lstore_n (lv' := [(1, .long (dgF (tlV g mi t mv hv bv fcv) 0)), (0, .ref m0)]) hx hb dX9_digest_3 rfl hl (by decide) rfl (fun ls hl => ?_)
  refine lv_iconst (v := 0) hx hb dX9_digest_4 (by decide) ?_
  refine tpi (x' := nI 0) (rfl) ?_
  refine lv_istore_n (lv' := [(3, .int (nI 0)), (1, .long (dgF (tlV g mi t mv hv bv fcv) 0)), (0, .ref m0)]) hx hb dX9_digest_5 rfl hl (by decide) rfl (fun ls hl => ?_)
  have j_6 : ∀ (fu : Nat) (k : Nat) (v1 : Nat → Value) (M1 : mp) (H : Heap) (locs : List Loc) (ls : Array Slot), (k ≤ 9) → (rfA cA M1 m0 fb ra wn ov th it td hp bd fl v1 fh fb2 ff) → (agS v v1) → (hw D M s.heap M1 H locs) → (kpL M M1 [m0, ra, wn, ov, th, it]) → (M1 m0 = some (.inr (9, rL v1))) → (9 - k < fu) → lv_has ls 4 [(0, .ref m0), (1, .long (dgF (tlV g mi t mv hv bv fcv) k)), (3, .int (nI k))] → W p l e ({ frames := 5, cells := 0, slots := 0, locals := 118 } : Room) s m args below meth c H locs 0 0 Q (F0 m 6 ls []) := by
    intro fu
    induction fu with
    | zero => intro k v1 M1 H locs ls hk9 hA1 hag hh hkp hR hm_6 _; exact absurd hm_6 (Nat.not_lt_zero _)
    | succ fu ih_6 =>
      intro k v1 M1 H locs ls hk9 hA1 hag hh hkp hR hm_6 hl
      have hM := hh.1
      refine lv_iload_n hx hb dX9_digest_6 rfl (lv_at hl 2 rfl) ?_
      refine lv_bipush (v := 9) hx hb dX9_digest_7 (by decide) ?_
      refine bi_ge (tgt := 30) hx hb dX9_digest_9 (by decide) (fun c_9 n_9 => ?_) (fun c_9 n_9 => ?_)
      · skip
        have k9 : k = 9 := by have := (nI_leI (a := 9) (by decide) (by omega)).mp c_9; omega
        refine lv_lload_n hx hb dX9_digest_30 rfl (lv_at hl 1 rfl) ?_
        exact hretl _ _ _ _ _ _ _ _ hh (⟨by rw [k9], ⟨v1, hA1, hag⟩, hkp⟩) (by decide) (by decide) dX9_digest_31 rfl
      · skip
        have k9 : k < 9 := (nI_ltI (b := 9) (by omega) (by decide)).mp c_9
        refine lv_ldc2 hx hb hown cst_164 dX9_digest_12 ?_
        refine lv_lload_n hx hb dX9_digest_15 rfl (lv_at hl 1 rfl) ?_
        refine lv_lmul hx hb dX9_digest_16 ?_
        refine lv_aload_n hx hb dX9_digest_17 rfl (lv_at hl 0 rfl) ?_
        refine lv_iload_n hx hb dX9_digest_18 rfl (lv_at hl 2 rfl) ?_
        refine cmV (As := [.int (nI k)]) (rest := [.long ((31 * dgF (tlV g mi t mv hv bv fcv) k))]) (k_X9_about l D cA _ m0 fb ra wn ov th it td hp bd fl v1 fh fb2 ff g t mv mi hv bv fcv (nI k) hA1 (hag.at hv8 (by decide) (by decide) (by decide) (by decide)) (hag.at hv9 (by decide) (by decide) (by decide) (by decide)) (hag.at hv10 (by decide) (by decide) (by decide) (by decide)) (hag.at hv11 (by decide) (by decide) (by decide) (by decide)) hfh hmv hfb hok hbv hff hfc) ⟨hx, hb, hml, hown, hts⟩ (cwV 1 hts gX9_digest_X9_about rfl rfl rfl (by decide +kernel) ⟨by decide, by decide⟩) hK hh hR rfl rfl hl.1 rfl (Nat.le_of_ble_eq_true rfl) dX9_digest_19 ⟨by decide, by decide⟩ (fun v9 M1 H1 locs1 hpost hh hz9 hk9 hn9 => ?_)
        obtain ⟨rfl, ⟨v2, hA2, hag2⟩, hkc⟩ := hpost
        have hR : M1 m0 = some (.inr (9, rL v2)) := hA2.1
        have hkp := hkp.call hkc (by simp)
        have hM := hh.1
        refine W.eq (g2 := F0 m 22 ls [.long ((tlV g mi t mv hv bv fcv) (nI k)), .long ((31 * dgF (tlV g mi t mv hv bv fcv) k))]) rfl ?_
        refine lv_ladd hx hb dX9_digest_22 ?_
        refine tpl (x' := dgF (tlV g mi t mv hv bv fcv) (k + 1)) (rfl) ?_
        refine lv_lstore_n (lv' := [(1, .long (dgF (tlV g mi t mv hv bv fcv) (k + 1))), (0, .ref m0), (3, .int (nI k))]) hx hb dX9_digest_23 rfl hl (by decide) rfl (fun ls hl => ?_)
        refine lv_iinc (v := nI (k + 1)) (lv' := [(3, .int (nI (k + 1))), (1, .long (dgF (tlV g mi t mv hv bv fcv) (k + 1))), (0, .ref m0)]) hx hb dX9_digest_24 hl (k := 2) rfl (nI_up k) (by decide) rfl (fun ls hl => ?_)
        refine lv_goto (tgt := 6) hx hb dX9_digest_27 (by decide) ?_
        exact ih_6 (k + 1) v2 _ _ _ _ (by omega) hA2 (hag.tr hag2) hh hkp hR (by omega) (lv_sub hl [2, 1, 0] rfl)
  exact j_6 (10) 0 v _ _ _ _ (by omega) hA (agS.rf v) hh hkp hR (by omega) (lv_sub hl [2, 1, 0] rfl)
set_option maxHeartbeats 1000000 in
set_option maxRecDepth 100000 in
theorem k_X9_undo (l : Launch) (D : va_G) (cA : Nat → ClassId) (M : mp) (m0 fb ra wn ov th it td hp bd fl : Nat) (v : Nat → Value) (fh fb2 : Nat → Int64) (ff : Nat → Int32) (mv mq : Nat)  (hA : rfA cA M m0 fb ra wn ov th it td hp bd fl v fh fb2 ff) (hv11 : v 11 = .int (nI mv)) (hmv : mv = mq + 1) (hm2 : mv ≤ 200)  : MC l D cA yX9_undo wsX9_undo 0 0 0 0 [.ref m0] M (fun r M' => r = some (.int (nI mq)) ∧ (∃ v', rfA cA M' m0 fb ra wn ov th it td hp bd fl v' fh fb2 ff ∧ v' 11 = .int (nI mq) ∧ (∀ k, k ≠ 11 → v' k = v k)) ∧ kpL M M' [m0]) := by
  refine MC.of (cc := cX9_undo) (maxL := 1) (ret := (some .int)) (by decide) rfl (Nat.le_of_ble_eq_true rfl) ?_
  intro p e s m args below meth c Q ls B hh hl hretv hreti hretz hretl hreta
  obtain ⟨hx, hb, hown, hts, hml, hK, hin⟩ := B
  have hM := hh.1
  have hM_0 := hh.1
  have hkp : kpL M M [m0] := kpL.rf M _
  have hown : s.vm.findClass RX9 = some m.cls := hown
  have hl : lv_has ls 1 [(0, .ref m0)] := hl
  have in_X9 : ∀ w ∈ wsX90, w ∈ wsX9_undo := by decide +kernel
  have fl_144 := hts (.fieldLink RX9 144 "GoldHeapsModel" "moves" "I") (by decide +kernel)
  obtain ⟨hR, ⟨hv0, hv1, hv3, hv4, hv5, hv6, hv7, hv12, hv13, hv14⟩, ⟨f, hfb0, hfib⟩, ⟨f0, hrw⟩, hRT, ⟨fd, htd⟩, hhp, hbd, hfl⟩ := id hA
  refine lv_aload_n hx hb dX9_undo_0 rfl (lv_at hl 0 rfl) ?_
  refine m_get (ci := 9) (C := RX9) (T := TX9) (N := 18) (v := v 11) hx hb hts in_X9 hown hK hM hR rfl 11 (by decide) fl_144 (fun _ h => h) rfl dX9_undo_1 ?_
  refine tpv (hv11) ?_
  refine bz_ne (tgt := 10) hx hb dX9_undo_4 (by decide) (fun c_4 n_4 => ?_) (fun c_4 n_4 => ?_)
  · skip
    refine lv_aload_n hx hb dX9_undo_10 rfl (lv_at hl 0 rfl) ?_
    refine lv_dup hx hb dX9_undo_11 rfl ?_
    refine m_get (ci := 9) (C := RX9) (T := TX9) (N := 18) (v := v 11) hx hb hts in_X9 hown hK hM hR rfl 11 (by decide) fl_144 (fun _ h => h) rfl dX9_undo_12 ?_
    refine tpv (hv11) ?_
    refine lv_iconst (v := 1) hx hb dX9_undo_15 (by decide) ?_
    refine lv_isub hx hb dX9_undo_16 ?_
    refine tpi (x' := nI mq) (by rw [hmv]; exact nD_succ mq) ?_
    refine m_put (ci := 9) (C := RX9) (T := TX9) (N := 18) (v := .int (nI mq)) hx hb hts in_X9 tyX9 tyX9_ok nmX9 hown hK hh hR rfl 11 (by decide) fl_144 (fun _ h => h) rfl (ty := tyX9 11) (by decide +kernel) (rfl) (rfl) (Nat.le_of_ble_eq_true rfl) dX9_undo_17 (fun M1 H1 locs1 e1 hh => ?_)
    have hhp := mu_kp e1 (mp_ne hhp hR (by simp)) hhp
    have hbd := mu_kp e1 (mp_ne hbd hR (by simp)) hbd
    have hfl := mu_kp e1 (mp_ne hfl hR (by simp)) hfl
    have hR := mu_at e1
    have hkp := hkp.put e1 (by simp)
    have hR : M1 m0 = some (.inr (9, rL (va_up v 11 (.int (nI mq))))) := hR
    have hM := hh.1
    refine lv_aload_n hx hb dX9_undo_20 rfl (lv_at hl 0 rfl) ?_
    refine m_get (ci := 9) (C := RX9) (T := TX9) (N := 18) (v := (va_up v 11 (.int (nI mq))) 11) hx hb hts in_X9 hown hK hM hR rfl 11 (by decide) fl_144 (fun _ h => h) rfl dX9_undo_21 ?_
    refine tpv (va_up_self _ _ _) ?_
    exact hreti _ _ _ _ _ _ _ _ hh (⟨rfl, ⟨_, hA.brd (hkp.wk (by simp)) hR ⟨(va_up_ne _ _ (by decide)).trans (hv0), (va_up_ne _ _ (by decide)).trans (hv1), (va_up_ne _ _ (by decide)).trans (hv3), (va_up_ne _ _ (by decide)).trans (hv4), (va_up_ne _ _ (by decide)).trans (hv5), (va_up_ne _ _ (by decide)).trans (hv6), (va_up_ne _ _ (by decide)).trans (hv7), (va_up_ne _ _ (by decide)).trans (hv12), (va_up_ne _ _ (by decide)).trans (hv13), (va_up_ne _ _ (by decide)).trans (hv14)⟩ hhp hbd hfl, va_up_self _ _ _, fun k hk => va_up_ne _ _ hk⟩, hkp⟩) (by decide) (by decide) dX9_undo_24 rfl
  · exact absurd ((nI_eq (b := 0) (by omega) (by decide)).mp c_4) (by omega)
set_option maxHeartbeats 1000000 in
set_option maxRecDepth 100000 in
theorem k_X9_undo0 (l : Launch) (D : va_G) (cA : Nat → ClassId) (M : mp) (m0 : Nat) (v : Nat → Value)  (hR : M m0 = some (.inr (9, rL v))) (hv11 : v 11 = .int (nI 0))  : MC l D cA yX9_undo wsX9_undo 0 0 0 0 [.ref m0] M (fun r M' => r = some (.int (-3)) ∧ kpL M M' []) := by
  refine MC.of (cc := cX9_undo) (maxL := 1) (ret := (some .int)) (by decide) rfl (Nat.le_of_ble_eq_true rfl) ?_
  intro p e s m args below meth c Q ls B hh hl hretv hreti hretz hretl hreta
  obtain ⟨hx, hb, hown, hts, hml, hK, hin⟩ := B
  have hM := hh.1
  have hM_0 := hh.1
  have hkp : kpL M M [] := kpL.rf M _
  have hown : s.vm.findClass RX9 = some m.cls := hown
  have hl : lv_has ls 1 [(0, .ref m0)] := hl
  have in_X9 : ∀ w ∈ wsX90, w ∈ wsX9_undo := by decide +kernel
  have fl_144 := hts (.fieldLink RX9 144 "GoldHeapsModel" "moves" "I") (by decide +kernel)
  refine lv_aload_n hx hb dX9_undo_0 rfl (lv_at hl 0 rfl) ?_
  refine m_get (ci := 9) (C := RX9) (T := TX9) (N := 18) (v := v 11) hx hb hts in_X9 hown hK hM hR rfl 11 (by decide) fl_144 (fun _ h => h) rfl dX9_undo_1 ?_
  refine tpv (hv11) ?_
  refine bz_ne (tgt := 10) hx hb dX9_undo_4 (by decide) (fun c_4 n_4 => ?_) (fun c_4 n_4 => ?_)
  · exact absurd rfl c_4
  · skip
    refine lv_bipush (v := (-3)) hx hb dX9_undo_7 (by decide) ?_
    exact hreti _ _ _ _ _ _ _ _ hh (⟨rfl, hkp⟩) (by decide) (by decide) dX9_undo_9 rfl
set_option maxHeartbeats 1000000 in
set_option maxRecDepth 100000 in
theorem k_X9_board (l : Launch) (D : va_G) (cA : Nat → ClassId) (M : mp) (m0 fb ra wn ov th it td hp bd fl : Nat) (v : Nat → Value) (fh fb2 : Nat → Int64) (ff : Nat → Int32) (g0 : Int32) (m2 : Bool) (a b c0 : Int64)  (hA : rfA cA M m0 fb ra wn ov th it td hp bd fl v fh fb2 ff)  : MC l D cA yX9_board wsX9_board 1 25 0 0 [.ref m0, .int g0, .int (bI m2), .long a, .long b, .long c0] M (fun r M' => (ahF g0 m2 a b c0 = true ∧ r = some (.int 1) ∧ (∃ v' fh' fb' ff', rfA cA M' m0 fb ra wn ov th it td hp bd fl v' fh' fb' ff' ∧ v' 8 = .int (nI (nB g0)) ∧ v' 9 = .int (bI m2) ∧ v' 10 = .int (nI (if nB g0 = 2 then nL b else 0)) ∧ v' 11 = .int (nI 0) ∧ (∀ k, k < 3 → fh' k = lN (hv0 (nB g0) (nL a) (nL b) (nL c0) k)) ∧ (∀ t1 lm, fb' 0 = lN (bdV (nB g0) t1 0 (nL a) lm)) ∧ ff' 0 = nI 0) ∧ kpL M M' [m0, hp, bd, fl]) ∨ (ahF g0 m2 a b c0 = false ∧ r = some (.int (-2)) ∧ M' = M)) := by
  refine MC.of (cc := cX9_board) (maxL := 12) (ret := (some .int)) (by decide) rfl (Nat.le_of_ble_eq_true rfl) ?_
  intro p e s m args below meth c Q ls B hh hl hretv hreti hretz hretl hreta
  obtain ⟨hx, hb, hown, hts, hml, hK, hin⟩ := B
  have hM := hh.1
  have hM_0 := hh.1
  have hkp : kpL M M [m0, hp, bd, fl] := kpL.rf M _
  have hown : s.vm.findClass RX9 = some m.cls := hown
  have hl : lv_has ls 12 [(0, .ref m0), (1, .int g0), (2, .int (bI m2)), (3, .long a), (5, .long b), (7, .long c0)] := hl
  have in_X9 : ∀ w ∈ wsX90, w ∈ wsX9_board := by decide +kernel
  have fl_32 := hts (.fieldLink RX9 32 "GoldHeapsModel" "game" "I") (by decide +kernel)
  have fl_138 := hts (.fieldLink RX9 138 "GoldHeapsModel" "misere" "Z") (by decide +kernel)
  have fl_141 := hts (.fieldLink RX9 141 "GoldHeapsModel" "t" "I") (by decide +kernel)
  have fl_144 := hts (.fieldLink RX9 144 "GoldHeapsModel" "moves" "I") (by decide +kernel)
  have fl_36 := hts (.fieldLink RX9 36 "GoldHeapsModel" "heaps" "[J") (by decide +kernel)
  have fl_39 := hts (.fieldLink RX9 39 "GoldHeapsModel" "bounds" "[J") (by decide +kernel)
  have fl_42 := hts (.fieldLink RX9 42 "GoldHeapsModel" "faults" "[I") (by decide +kernel)
  have cst_136 := hts (.constantLong RX9 136 (3)) (by decide +kernel)
  have cst_93 := hts (.constantLong RX9 93 (9)) (by decide +kernel)
  have cst_48 := hts (.constantLong RX9 48 (1000000000000)) (by decide +kernel)
  have cst_125 := hts (.constantLong RX9 125 (60)) (by decide +kernel)
  have cst_130 := hts (.constantLong RX9 130 (10)) (by decide +kernel)
  obtain ⟨hR, ⟨hv0, hv1, hv3, hv4, hv5, hv6, hv7, hv12, hv13, hv14⟩, ⟨f, hfb0, hfib⟩, ⟨f0, hrw⟩, hRT, ⟨fd, htd⟩, hhp, hbd, hfl⟩ := id hA
  have j_24 : ∀  (ls : Array Slot), lv_has ls 12 [(0, .ref m0), (1, .int g0), (2, .int (bI m2)), (3, .long a), (5, .long b), (7, .long c0)] → W p l e ({ frames := 1, cells := 0, slots := 0, locals := 25 } : Room) s m args below meth c s.heap [] 0 0 Q (F0 m 24 ls [.long (moV g0 m2)]) := by
    intro  ls  hl
    refine lv_lstore (lv' := [(9, .long (moV g0 m2)), (0, .ref m0), (1, .int g0), (2, .int (bI m2)), (3, .long a), (5, .long b), (7, .long c0)]) hx hb dX9_board_24 hl (by decide) rfl (fun ls hl => ?_)
    have j_104 : ∀ (fz : Bool) (ls : Array Slot), (fz = ahF g0 m2 a b c0) → lv_has ls 12 [(9, .long (moV g0 m2)), (0, .ref m0), (1, .int g0), (2, .int (bI m2)), (3, .long a), (5, .long b), (7, .long c0)] → W p l e ({ frames := 1, cells := 0, slots := 0, locals := 25 } : Room) s m args below meth c s.heap [] 0 0 Q (F0 m 104 ls [.int (bI fz)]) := by
      intro fz ls hfz hl
      refine lv_istore (lv' := [(11, .int (bI fz)), (9, .long (moV g0 m2)), (0, .ref m0), (1, .int g0), (2, .int (bI m2)), (3, .long a), (5, .long b), (7, .long c0)]) hx hb dX9_board_104 hl (by decide) rfl (fun ls hl => ?_)
      refine lv_iload hx hb dX9_board_106 (lv_at hl 0 rfl) ?_
      refine bz_ne (tgt := 114) hx hb dX9_board_108 (by decide) (fun c_108 n_108 => ?_) (fun c_108 n_108 => ?_)
      · skip
        have h9 := bI_ne0 c_108
        rw [hfz] at h9
        obtain ⟨ea, eb, hc3, hok⟩ := ah_ok h9
        have eg := (ah_case h9).1.1
        have hla : nL a ≤ 1000000000000 := hok.2.1 0
        refine lv_aload_n hx hb dX9_board_114 rfl (lv_at hl 2 rfl) ?_
        refine lv_iload_n hx hb dX9_board_115 rfl (lv_at hl 3 rfl) ?_
        refine m_put (ci := 9) (C := RX9) (T := TX9) (N := 18) (v := .int g0) hx hb hts in_X9 tyX9 tyX9_ok nmX9 hown hK hh hR rfl 8 (by decide) fl_32 (fun _ h => h) rfl (ty := tyX9 8) (by decide +kernel) (rfl) (rfl) (Nat.le_of_ble_eq_true rfl) dX9_board_116 (fun M1 H1 locs1 e1 hh => ?_)
        have hhp := mu_kp e1 (mp_ne hhp hR (by simp)) hhp
        have hbd := mu_kp e1 (mp_ne hbd hR (by simp)) hbd
        have hfl := mu_kp e1 (mp_ne hfl hR (by simp)) hfl
        have hR := mu_at e1
        have hkp := hkp.put e1 (by simp)
        have hR : M1 m0 = some (.inr (9, rL (va_up v 8 (.int g0)))) := hR
        have hM := hh.1
        refine lv_aload_n hx hb dX9_board_119 rfl (lv_at hl 2 rfl) ?_
        refine lv_iload_n hx hb dX9_board_120 rfl (lv_at hl 4 rfl) ?_
        refine m_put (ci := 9) (C := RX9) (T := TX9) (N := 18) (v := .int (bI m2)) hx hb hts in_X9 tyX9 tyX9_ok nmX9 hown hK hh hR rfl 9 (by decide) fl_138 (fun _ h => h) rfl (ty := tyX9 9) (by decide +kernel) (bI_nar _) (by cases m2 <;> rfl) (Nat.le_of_ble_eq_true rfl) dX9_board_121 (fun M1 H1 locs1 e1 hh => ?_)
        have hhp := mu_kp e1 (mp_ne hhp hR (by simp)) hhp
        have hbd := mu_kp e1 (mp_ne hbd hR (by simp)) hbd
        have hfl := mu_kp e1 (mp_ne hfl hR (by simp)) hfl
        have hR := mu_at e1
        have hkp := hkp.put e1 (by simp)
        have hR : M1 m0 = some (.inr (9, rL (va_up (va_up v 8 (.int g0)) 9 (.int (bI m2))))) := hR
        have hM := hh.1
        refine lv_aload_n hx hb dX9_board_124 rfl (lv_at hl 2 rfl) ?_
        refine lv_iload_n hx hb dX9_board_125 rfl (lv_at hl 3 rfl) ?_
        refine lv_iconst (v := 2) hx hb dX9_board_126 (by decide) ?_
        refine bi_ne (tgt := 136) hx hb dX9_board_127 (by decide) (fun c_127 n_127 => ?_) (fun c_127 n_127 => ?_)
        · skip
          have q2 : ¬ nB g0 = 2 := fun z => c_127 (by rw [eg, z]; rfl)
          refine lv_iconst (v := 0) hx hb dX9_board_136 (by decide) ?_
          refine tpi (x' := nI 0) (rfl) ?_
          refine m_put (ci := 9) (C := RX9) (T := TX9) (N := 18) (v := .int (nI 0)) hx hb hts in_X9 tyX9 tyX9_ok nmX9 hown hK hh hR rfl 10 (by decide) fl_141 (fun _ h => h) rfl (ty := tyX9 10) (by decide +kernel) (rfl) (rfl) (Nat.le_of_ble_eq_true rfl) dX9_board_137 (fun M1 H1 locs1 e1 hh => ?_)
          have hhp := mu_kp e1 (mp_ne hhp hR (by simp)) hhp
          have hbd := mu_kp e1 (mp_ne hbd hR (by simp)) hbd
          have hfl := mu_kp e1 (mp_ne hfl hR (by simp)) hfl
          have hR := mu_at e1
          have hkp := hkp.put e1 (by simp)
          have hR : M1 m0 = some (.inr (9, rL (va_up (va_up (va_up v 8 (.int g0)) 9 (.int (bI m2))) 10 (.int (nI 0))))) := hR
          have hM := hh.1
          refine lv_aload_n hx hb dX9_board_140 rfl (lv_at hl 2 rfl) ?_
          refine lv_iconst (v := 0) hx hb dX9_board_141 (by decide) ?_
          refine tpi (x' := nI 0) (rfl) ?_
          refine m_put (ci := 9) (C := RX9) (T := TX9) (N := 18) (v := .int (nI 0)) hx hb hts in_X9 tyX9 tyX9_ok nmX9 hown hK hh hR rfl 11 (by decide) fl_144 (fun _ h => h) rfl (ty := tyX9 11) (by decide +kernel) (rfl) (rfl) (Nat.le_of_ble_eq_true rfl) dX9_board_142 (fun M1 H1 locs1 e1 hh => ?_)
          have hhp := mu_kp e1 (mp_ne hhp hR (by simp)) hhp
          have hbd := mu_kp e1 (mp_ne hbd hR (by simp)) hbd
          have hfl := mu_kp e1 (mp_ne hfl hR (by simp)) hfl
          have hR := mu_at e1
          have hkp := hkp.put e1 (by simp)
          have hR : M1 m0 = some (.inr (9, rL (va_up (va_up (va_up (va_up v 8 (.int g0)) 9 (.int (bI m2))) 10 (.int (nI 0))) 11 (.int (nI 0))))) := hR
          have hM := hh.1
          refine lv_aload_n hx hb dX9_board_145 rfl (lv_at hl 2 rfl) ?_
          refine m_get (ci := 9) (C := RX9) (T := TX9) (N := 18) (v := (va_up (va_up (va_up (va_up v 8 (.int g0)) 9 (.int (bI m2))) 10 (.int (nI 0))) 11 (.int (nI 0))) 12) hx hb hts in_X9 hown hK hM hR rfl 12 (by decide) fl_36 (fun _ h => h) rfl dX9_board_146 ?_
          refine tpv ((va_up_ne _ _ (by decide)).trans ((va_up_ne _ _ (by decide)).trans ((va_up_ne _ _ (by decide)).trans ((va_up_ne _ _ (by decide)).trans (hv12))))) ?_
          refine lv_iconst (v := 0) hx hb dX9_board_149 (by decide) ?_
          refine lv_lload_n hx hb dX9_board_150 rfl (lv_at hl 5 rfl) ?_
          refine m_lastN (k := 0) hx hb hK hh hhp (rfl) (by decide) (by decide) dX9_board_151 (fun M1 H1 locs1 e1 hh => ?_)
          have hR := mu_kp e1 (mp_ne hR hhp (by simp)) hR
          have hbd := mu_kp e1 (mp_ne hbd hhp (by simp)) hbd
          have hfl := mu_kp e1 (mp_ne hfl hhp (by simp)) hfl
          have hhp := mu_at e1
          have hkp := hkp.put e1 (by simp)
          have hhp : M1 hp = some (.inl (cA 0, 603, .inr (.inl (vp_updL fh 0 a)))) := hhp
          have hM := hh.1
          refine lv_aload_n hx hb dX9_board_152 rfl (lv_at hl 2 rfl) ?_
          refine m_get (ci := 9) (C := RX9) (T := TX9) (N := 18) (v := (va_up (va_up (va_up (va_up v 8 (.int g0)) 9 (.int (bI m2))) 10 (.int (nI 0))) 11 (.int (nI 0))) 12) hx hb hts in_X9 hown hK hM hR rfl 12 (by decide) fl_36 (fun _ h => h) rfl dX9_board_153 ?_
          refine tpv ((va_up_ne _ _ (by decide)).trans ((va_up_ne _ _ (by decide)).trans ((va_up_ne _ _ (by decide)).trans ((va_up_ne _ _ (by decide)).trans (hv12))))) ?_
          refine lv_iconst (v := 1) hx hb dX9_board_156 (by decide) ?_
          refine lv_iload_n hx hb dX9_board_157 rfl (lv_at hl 3 rfl) ?_
          refine lv_iconst (v := 2) hx hb dX9_board_158 (by decide) ?_
          refine bi_ne (tgt := 166) hx hb dX9_board_159 (by decide) (fun c_159 n_159 => ?_) (fun c_159 n_159 => ?_)
          · skip
            refine lv_lload hx hb dX9_board_166 (lv_at hl 6 rfl) ?_
            refine m_lastN (k := 1) hx hb hK hh hhp (rfl) (by decide) (by decide) dX9_board_168 (fun M1 H1 locs1 e1 hh => ?_)
            have hR := mu_kp e1 (mp_ne hR hhp (by simp)) hR
            have hbd := mu_kp e1 (mp_ne hbd hhp (by simp)) hbd
            have hfl := mu_kp e1 (mp_ne hfl hhp (by simp)) hfl
            have hhp := mu_at e1
            have hkp := hkp.put e1 (by simp)
            have hhp : M1 hp = some (.inl (cA 0, 603, .inr (.inl (vp_updL (vp_updL fh 0 a) 1 b)))) := hhp
            have hM := hh.1
            refine lv_aload_n hx hb dX9_board_169 rfl (lv_at hl 2 rfl) ?_
            refine m_get (ci := 9) (C := RX9) (T := TX9) (N := 18) (v := (va_up (va_up (va_up (va_up v 8 (.int g0)) 9 (.int (bI m2))) 10 (.int (nI 0))) 11 (.int (nI 0))) 12) hx hb hts in_X9 hown hK hM hR rfl 12 (by decide) fl_36 (fun _ h => h) rfl dX9_board_170 ?_
            refine tpv ((va_up_ne _ _ (by decide)).trans ((va_up_ne _ _ (by decide)).trans ((va_up_ne _ _ (by decide)).trans ((va_up_ne _ _ (by decide)).trans (hv12))))) ?_
            refine lv_iconst (v := 2) hx hb dX9_board_173 (by decide) ?_
            refine lv_iload_n hx hb dX9_board_174 rfl (lv_at hl 3 rfl) ?_
            refine lv_iconst (v := 3) hx hb dX9_board_175 (by decide) ?_
            refine bi_ne (tgt := 184) hx hb dX9_board_176 (by decide) (fun c_176 n_176 => ?_) (fun c_176 n_176 => ?_)
            · skip
              have q3 : ¬ nB g0 = 3 := fun z => c_176 (by rw [eg, z]; rfl)
              refine lv_lconst (v := 0) hx hb dX9_board_184 (by decide) ?_
              refine m_lastN (k := 2) hx hb hK hh hhp (rfl) (by decide) (by decide) dX9_board_185 (fun M1 H1 locs1 e1 hh => ?_)
              have hR := mu_kp e1 (mp_ne hR hhp (by simp)) hR
              have hbd := mu_kp e1 (mp_ne hbd hhp (by simp)) hbd
              have hfl := mu_kp e1 (mp_ne hfl hhp (by simp)) hfl
              have hhp := mu_at e1
              have hkp := hkp.put e1 (by simp)
              have hhp : M1 hp = some (.inl (cA 0, 603, .inr (.inl (vp_updL (vp_updL (vp_updL fh 0 a) 1 b) 2 0)))) := hhp
              have hM := hh.1
              refine lv_aload_n hx hb dX9_board_186 rfl (lv_at hl 2 rfl) ?_
              refine m_get (ci := 9) (C := RX9) (T := TX9) (N := 18) (v := (va_up (va_up (va_up (va_up v 8 (.int g0)) 9 (.int (bI m2))) 10 (.int (nI 0))) 11 (.int (nI 0))) 13) hx hb hts in_X9 hown hK hM hR rfl 13 (by decide) fl_39 (fun _ h => h) rfl dX9_board_187 ?_
              refine tpv ((va_up_ne _ _ (by decide)).trans ((va_up_ne _ _ (by decide)).trans ((va_up_ne _ _ (by decide)).trans ((va_up_ne _ _ (by decide)).trans (hv13))))) ?_
              refine lv_iconst (v := 0) hx hb dX9_board_190 (by decide) ?_
              refine lv_iload_n hx hb dX9_board_191 rfl (lv_at hl 3 rfl) ?_
              refine lv_iconst (v := 2) hx hb dX9_board_192 (by decide) ?_
              refine bi_ne (tgt := 208) hx hb dX9_board_193 (by decide) (fun c_193 n_193 => ?_) (fun c_193 n_193 => ?_)
              · skip
                refine lv_lconst (v := 0) hx hb dX9_board_208 (by decide) ?_
                refine m_lastN (k := 0) hx hb hK hh hbd (rfl) (by decide) (by decide) dX9_board_209 (fun M1 H1 locs1 e1 hh => ?_)
                have hR := mu_kp e1 (mp_ne hR hbd (by simp)) hR
                have hhp := mu_kp e1 (mp_ne hhp hbd (by simp)) hhp
                have hfl := mu_kp e1 (mp_ne hfl hbd (by simp)) hfl
                have hbd := mu_at e1
                have hkp := hkp.put e1 (by simp)
                have hbd : M1 bd = some (.inl (cA 0, 201, .inr (.inl (vp_updL fb2 0 0)))) := hbd
                have hM := hh.1
                refine lv_aload_n hx hb dX9_board_210 rfl (lv_at hl 2 rfl) ?_
                refine m_get (ci := 9) (C := RX9) (T := TX9) (N := 18) (v := (va_up (va_up (va_up (va_up v 8 (.int g0)) 9 (.int (bI m2))) 10 (.int (nI 0))) 11 (.int (nI 0))) 14) hx hb hts in_X9 hown hK hM hR rfl 14 (by decide) fl_42 (fun _ h => h) rfl dX9_board_211 ?_
                refine tpv ((va_up_ne _ _ (by decide)).trans ((va_up_ne _ _ (by decide)).trans ((va_up_ne _ _ (by decide)).trans ((va_up_ne _ _ (by decide)).trans (hv14))))) ?_
                refine lv_iconst (v := 0) hx hb dX9_board_214 (by decide) ?_
                refine lv_iconst (v := 0) hx hb dX9_board_215 (by decide) ?_
                refine m_iastN (k := 0) hx hb hK hh hfl (rfl) (by decide) (by decide) dX9_board_216 (fun M1 H1 locs1 e1 hh => ?_)
                have hR := mu_kp e1 (mp_ne hR hfl (by simp)) hR
                have hhp := mu_kp e1 (mp_ne hhp hfl (by simp)) hhp
                have hbd := mu_kp e1 (mp_ne hbd hfl (by simp)) hbd
                have hfl := mu_at e1
                have hkp := hkp.put e1 (by simp)
                have hfl : M1 fl = some (.inl (cA 1, 201, .inl (upd ff 0 0))) := hfl
                have hM := hh.1
                refine lv_iconst (v := 1) hx hb dX9_board_217 (by decide) ?_
                exact hreti _ _ _ _ _ _ _ _ hh (Or.inl ⟨h9, rfl, ⟨_, _, _, _, hA.brd hkp hR ⟨(va_up_ne _ _ (by decide)).trans ((va_up_ne _ _ (by decide)).trans ((va_up_ne _ _ (by decide)).trans ((va_up_ne _ _ (by decide)).trans (hv0)))), (va_up_ne _ _ (by decide)).trans ((va_up_ne _ _ (by decide)).trans ((va_up_ne _ _ (by decide)).trans ((va_up_ne _ _ (by decide)).trans (hv1)))), (va_up_ne _ _ (by decide)).trans ((va_up_ne _ _ (by decide)).trans ((va_up_ne _ _ (by decide)).trans ((va_up_ne _ _ (by decide)).trans (hv3)))), (va_up_ne _ _ (by decide)).trans ((va_up_ne _ _ (by decide)).trans ((va_up_ne _ _ (by decide)).trans ((va_up_ne _ _ (by decide)).trans (hv4)))), (va_up_ne _ _ (by decide)).trans ((va_up_ne _ _ (by decide)).trans ((va_up_ne _ _ (by decide)).trans ((va_up_ne _ _ (by decide)).trans (hv5)))), (va_up_ne _ _ (by decide)).trans ((va_up_ne _ _ (by decide)).trans ((va_up_ne _ _ (by decide)).trans ((va_up_ne _ _ (by decide)).trans (hv6)))), (va_up_ne _ _ (by decide)).trans ((va_up_ne _ _ (by decide)).trans ((va_up_ne _ _ (by decide)).trans ((va_up_ne _ _ (by decide)).trans (hv7)))), (va_up_ne _ _ (by decide)).trans ((va_up_ne _ _ (by decide)).trans ((va_up_ne _ _ (by decide)).trans ((va_up_ne _ _ (by decide)).trans (hv12)))), (va_up_ne _ _ (by decide)).trans ((va_up_ne _ _ (by decide)).trans ((va_up_ne _ _ (by decide)).trans ((va_up_ne _ _ (by decide)).trans (hv13)))), (va_up_ne _ _ (by decide)).trans ((va_up_ne _ _ (by decide)).trans ((va_up_ne _ _ (by decide)).trans ((va_up_ne _ _ (by decide)).trans (hv14))))⟩ hhp hbd hfl, by rw [← eg]; exact (va_up_ne _ _ (by decide)).trans ((va_up_ne _ _ (by decide)).trans ((va_up_ne _ _ (by decide)).trans (va_up_self _ _ _))), (va_up_ne _ _ (by decide)).trans ((va_up_ne _ _ (by decide)).trans (va_up_self _ _ _)), by rw [if_neg q2]; exact (va_up_ne _ _ (by decide)).trans (va_up_self _ _ _), va_up_self _ _ _, fun k hk => by rcases (show k = 0 ∨ k = 1 ∨ k = 2 by omega) with e | e | e <;> subst e; (rw [hv0_0, pk_uLn (by decide), pk_uLn (by decide), pk_uLs]; exact ea); (rw [hv0_1, if_neg q2, pk_uLn (by decide), pk_uLs]; exact eb); (rw [hv0_2, if_neg q3, pk_uLs]; rfl), fun t1 lm => by rw [pk_uLs]; unfold bdV; rw [if_neg q2]; rfl, pk_us⟩, hkp⟩) (by decide) (by decide) dX9_board_218 rfl
              · exact absurd c_193 c_127
            · skip
              have q3 : nB g0 = 3 := by rw [c_176]; decide
              refine lv_lload hx hb dX9_board_179 (lv_at hl 7 rfl) ?_
              refine lv_goto (tgt := 185) hx hb dX9_board_181 (by decide) ?_
              refine m_lastN (k := 2) hx hb hK hh hhp (rfl) (by decide) (by decide) dX9_board_185 (fun M1 H1 locs1 e1 hh => ?_)
              have hR := mu_kp e1 (mp_ne hR hhp (by simp)) hR
              have hbd := mu_kp e1 (mp_ne hbd hhp (by simp)) hbd
              have hfl := mu_kp e1 (mp_ne hfl hhp (by simp)) hfl
              have hhp := mu_at e1
              have hkp := hkp.put e1 (by simp)
              have hhp : M1 hp = some (.inl (cA 0, 603, .inr (.inl (vp_updL (vp_updL (vp_updL fh 0 a) 1 b) 2 c0)))) := hhp
              have hM := hh.1
              refine lv_aload_n hx hb dX9_board_186 rfl (lv_at hl 2 rfl) ?_
              refine m_get (ci := 9) (C := RX9) (T := TX9) (N := 18) (v := (va_up (va_up (va_up (va_up v 8 (.int g0)) 9 (.int (bI m2))) 10 (.int (nI 0))) 11 (.int (nI 0))) 13) hx hb hts in_X9 hown hK hM hR rfl 13 (by decide) fl_39 (fun _ h => h) rfl dX9_board_187 ?_
              refine tpv ((va_up_ne _ _ (by decide)).trans ((va_up_ne _ _ (by decide)).trans ((va_up_ne _ _ (by decide)).trans ((va_up_ne _ _ (by decide)).trans (hv13))))) ?_
              refine lv_iconst (v := 0) hx hb dX9_board_190 (by decide) ?_
              refine lv_iload_n hx hb dX9_board_191 rfl (lv_at hl 3 rfl) ?_
              refine lv_iconst (v := 2) hx hb dX9_board_192 (by decide) ?_
              refine bi_ne (tgt := 208) hx hb dX9_board_193 (by decide) (fun c_193 n_193 => ?_) (fun c_193 n_193 => ?_)
              · skip
                refine lv_lconst (v := 0) hx hb dX9_board_208 (by decide) ?_
                refine m_lastN (k := 0) hx hb hK hh hbd (rfl) (by decide) (by decide) dX9_board_209 (fun M1 H1 locs1 e1 hh => ?_)
                have hR := mu_kp e1 (mp_ne hR hbd (by simp)) hR
                have hhp := mu_kp e1 (mp_ne hhp hbd (by simp)) hhp
                have hfl := mu_kp e1 (mp_ne hfl hbd (by simp)) hfl
                have hbd := mu_at e1
                have hkp := hkp.put e1 (by simp)
                have hbd : M1 bd = some (.inl (cA 0, 201, .inr (.inl (vp_updL fb2 0 0)))) := hbd
                have hM := hh.1
                refine lv_aload_n hx hb dX9_board_210 rfl (lv_at hl 2 rfl) ?_
                refine m_get (ci := 9) (C := RX9) (T := TX9) (N := 18) (v := (va_up (va_up (va_up (va_up v 8 (.int g0)) 9 (.int (bI m2))) 10 (.int (nI 0))) 11 (.int (nI 0))) 14) hx hb hts in_X9 hown hK hM hR rfl 14 (by decide) fl_42 (fun _ h => h) rfl dX9_board_211 ?_
                refine tpv ((va_up_ne _ _ (by decide)).trans ((va_up_ne _ _ (by decide)).trans ((va_up_ne _ _ (by decide)).trans ((va_up_ne _ _ (by decide)).trans (hv14))))) ?_
                refine lv_iconst (v := 0) hx hb dX9_board_214 (by decide) ?_
                refine lv_iconst (v := 0) hx hb dX9_board_215 (by decide) ?_
                refine m_iastN (k := 0) hx hb hK hh hfl (rfl) (by decide) (by decide) dX9_board_216 (fun M1 H1 locs1 e1 hh => ?_)
                have hR := mu_kp e1 (mp_ne hR hfl (by simp)) hR
                have hhp := mu_kp e1 (mp_ne hhp hfl (by simp)) hhp
                have hbd := mu_kp e1 (mp_ne hbd hfl (by simp)) hbd
                have hfl := mu_at e1
                have hkp := hkp.put e1 (by simp)
                have hfl : M1 fl = some (.inl (cA 1, 201, .inl (upd ff 0 0))) := hfl
                have hM := hh.1
                refine lv_iconst (v := 1) hx hb dX9_board_217 (by decide) ?_
                exact hreti _ _ _ _ _ _ _ _ hh (Or.inl ⟨h9, rfl, ⟨_, _, _, _, hA.brd hkp hR ⟨(va_up_ne _ _ (by decide)).trans ((va_up_ne _ _ (by decide)).trans ((va_up_ne _ _ (by decide)).trans ((va_up_ne _ _ (by decide)).trans (hv0)))), (va_up_ne _ _ (by decide)).trans ((va_up_ne _ _ (by decide)).trans ((va_up_ne _ _ (by decide)).trans ((va_up_ne _ _ (by decide)).trans (hv1)))), (va_up_ne _ _ (by decide)).trans ((va_up_ne _ _ (by decide)).trans ((va_up_ne _ _ (by decide)).trans ((va_up_ne _ _ (by decide)).trans (hv3)))), (va_up_ne _ _ (by decide)).trans ((va_up_ne _ _ (by decide)).trans ((va_up_ne _ _ (by decide)).trans ((va_up_ne _ _ (by decide)).trans (hv4)))), (va_up_ne _ _ (by decide)).trans ((va_up_ne _ _ (by decide)).trans ((va_up_ne _ _ (by decide)).trans ((va_up_ne _ _ (by decide)).trans (hv5)))), (va_up_ne _ _ (by decide)).trans ((va_up_ne _ _ (by decide)).trans ((va_up_ne _ _ (by decide)).trans ((va_up_ne _ _ (by decide)).trans (hv6)))), (va_up_ne _ _ (by decide)).trans ((va_up_ne _ _ (by decide)).trans ((va_up_ne _ _ (by decide)).trans ((va_up_ne _ _ (by decide)).trans (hv7)))), (va_up_ne _ _ (by decide)).trans ((va_up_ne _ _ (by decide)).trans ((va_up_ne _ _ (by decide)).trans ((va_up_ne _ _ (by decide)).trans (hv12)))), (va_up_ne _ _ (by decide)).trans ((va_up_ne _ _ (by decide)).trans ((va_up_ne _ _ (by decide)).trans ((va_up_ne _ _ (by decide)).trans (hv13)))), (va_up_ne _ _ (by decide)).trans ((va_up_ne _ _ (by decide)).trans ((va_up_ne _ _ (by decide)).trans ((va_up_ne _ _ (by decide)).trans (hv14))))⟩ hhp hbd hfl, by rw [← eg]; exact (va_up_ne _ _ (by decide)).trans ((va_up_ne _ _ (by decide)).trans ((va_up_ne _ _ (by decide)).trans (va_up_self _ _ _))), (va_up_ne _ _ (by decide)).trans ((va_up_ne _ _ (by decide)).trans (va_up_self _ _ _)), by rw [if_neg q2]; exact (va_up_ne _ _ (by decide)).trans (va_up_self _ _ _), va_up_self _ _ _, fun k hk => by rcases (show k = 0 ∨ k = 1 ∨ k = 2 by omega) with e | e | e <;> subst e; (rw [hv0_0, pk_uLn (by decide), pk_uLn (by decide), pk_uLs]; exact ea); (rw [hv0_1, if_neg q2, pk_uLn (by decide), pk_uLs]; exact eb); (rw [hv0_2, if_pos q3, pk_uLs]; exact hc3 q3), fun t1 lm => by rw [pk_uLs]; unfold bdV; rw [if_neg q2]; rfl, pk_us⟩, hkp⟩) (by decide) (by decide) dX9_board_218 rfl
              · exact absurd c_193 c_127
          · exact absurd c_159 c_127
        · skip
          have q2 : nB g0 = 2 := by rw [c_127]; decide
          refine lv_lload hx hb dX9_board_130 (lv_at hl 6 rfl) ?_
          refine lv_l2i hx hb dX9_board_132 rfl ?_
          refine tpi (x' := nI (nL b)) ((congrArg Int64.toInt32 eb).trans (lN_i _)) ?_
          refine lv_goto (tgt := 137) hx hb dX9_board_133 (by decide) ?_
          refine m_put (ci := 9) (C := RX9) (T := TX9) (N := 18) (v := .int (nI (nL b))) hx hb hts in_X9 tyX9 tyX9_ok nmX9 hown hK hh hR rfl 10 (by decide) fl_141 (fun _ h => h) rfl (ty := tyX9 10) (by decide +kernel) (rfl) (rfl) (Nat.le_of_ble_eq_true rfl) dX9_board_137 (fun M1 H1 locs1 e1 hh => ?_)
          have hhp := mu_kp e1 (mp_ne hhp hR (by simp)) hhp
          have hbd := mu_kp e1 (mp_ne hbd hR (by simp)) hbd
          have hfl := mu_kp e1 (mp_ne hfl hR (by simp)) hfl
          have hR := mu_at e1
          have hkp := hkp.put e1 (by simp)
          have hR : M1 m0 = some (.inr (9, rL (va_up (va_up (va_up v 8 (.int g0)) 9 (.int (bI m2))) 10 (.int (nI (nL b)))))) := hR
          have hM := hh.1
          refine lv_aload_n hx hb dX9_board_140 rfl (lv_at hl 2 rfl) ?_
          refine lv_iconst (v := 0) hx hb dX9_board_141 (by decide) ?_
          refine tpi (x' := nI 0) (rfl) ?_
          refine m_put (ci := 9) (C := RX9) (T := TX9) (N := 18) (v := .int (nI 0)) hx hb hts in_X9 tyX9 tyX9_ok nmX9 hown hK hh hR rfl 11 (by decide) fl_144 (fun _ h => h) rfl (ty := tyX9 11) (by decide +kernel) (rfl) (rfl) (Nat.le_of_ble_eq_true rfl) dX9_board_142 (fun M1 H1 locs1 e1 hh => ?_)
          have hhp := mu_kp e1 (mp_ne hhp hR (by simp)) hhp
          have hbd := mu_kp e1 (mp_ne hbd hR (by simp)) hbd
          have hfl := mu_kp e1 (mp_ne hfl hR (by simp)) hfl
          have hR := mu_at e1
          have hkp := hkp.put e1 (by simp)
          have hR : M1 m0 = some (.inr (9, rL (va_up (va_up (va_up (va_up v 8 (.int g0)) 9 (.int (bI m2))) 10 (.int (nI (nL b)))) 11 (.int (nI 0))))) := hR
          have hM := hh.1
          refine lv_aload_n hx hb dX9_board_145 rfl (lv_at hl 2 rfl) ?_
          refine m_get (ci := 9) (C := RX9) (T := TX9) (N := 18) (v := (va_up (va_up (va_up (va_up v 8 (.int g0)) 9 (.int (bI m2))) 10 (.int (nI (nL b)))) 11 (.int (nI 0))) 12) hx hb hts in_X9 hown hK hM hR rfl 12 (by decide) fl_36 (fun _ h => h) rfl dX9_board_146 ?_
          refine tpv ((va_up_ne _ _ (by decide)).trans ((va_up_ne _ _ (by decide)).trans ((va_up_ne _ _ (by decide)).trans ((va_up_ne _ _ (by decide)).trans (hv12))))) ?_
          refine lv_iconst (v := 0) hx hb dX9_board_149 (by decide) ?_
          refine lv_lload_n hx hb dX9_board_150 rfl (lv_at hl 5 rfl) ?_
          refine m_lastN (k := 0) hx hb hK hh hhp (rfl) (by decide) (by decide) dX9_board_151 (fun M1 H1 locs1 e1 hh => ?_)
          have hR := mu_kp e1 (mp_ne hR hhp (by simp)) hR
          have hbd := mu_kp e1 (mp_ne hbd hhp (by simp)) hbd
          have hfl := mu_kp e1 (mp_ne hfl hhp (by simp)) hfl
          have hhp := mu_at e1
          have hkp := hkp.put e1 (by simp)
          have hhp : M1 hp = some (.inl (cA 0, 603, .inr (.inl (vp_updL fh 0 a)))) := hhp
          have hM := hh.1
          refine lv_aload_n hx hb dX9_board_152 rfl (lv_at hl 2 rfl) ?_
          refine m_get (ci := 9) (C := RX9) (T := TX9) (N := 18) (v := (va_up (va_up (va_up (va_up v 8 (.int g0)) 9 (.int (bI m2))) 10 (.int (nI (nL b)))) 11 (.int (nI 0))) 12) hx hb hts in_X9 hown hK hM hR rfl 12 (by decide) fl_36 (fun _ h => h) rfl dX9_board_153 ?_
          refine tpv ((va_up_ne _ _ (by decide)).trans ((va_up_ne _ _ (by decide)).trans ((va_up_ne _ _ (by decide)).trans ((va_up_ne _ _ (by decide)).trans (hv12))))) ?_
          refine lv_iconst (v := 1) hx hb dX9_board_156 (by decide) ?_
          refine lv_iload_n hx hb dX9_board_157 rfl (lv_at hl 3 rfl) ?_
          refine lv_iconst (v := 2) hx hb dX9_board_158 (by decide) ?_
          refine bi_ne (tgt := 166) hx hb dX9_board_159 (by decide) (fun c_159 n_159 => ?_) (fun c_159 n_159 => ?_)
          · exact absurd c_127 c_159
          · skip
            refine lv_lconst (v := 0) hx hb dX9_board_162 (by decide) ?_
            refine lv_goto (tgt := 168) hx hb dX9_board_163 (by decide) ?_
            refine m_lastN (k := 1) hx hb hK hh hhp (rfl) (by decide) (by decide) dX9_board_168 (fun M1 H1 locs1 e1 hh => ?_)
            have hR := mu_kp e1 (mp_ne hR hhp (by simp)) hR
            have hbd := mu_kp e1 (mp_ne hbd hhp (by simp)) hbd
            have hfl := mu_kp e1 (mp_ne hfl hhp (by simp)) hfl
            have hhp := mu_at e1
            have hkp := hkp.put e1 (by simp)
            have hhp : M1 hp = some (.inl (cA 0, 603, .inr (.inl (vp_updL (vp_updL fh 0 a) 1 0)))) := hhp
            have hM := hh.1
            refine lv_aload_n hx hb dX9_board_169 rfl (lv_at hl 2 rfl) ?_
            refine m_get (ci := 9) (C := RX9) (T := TX9) (N := 18) (v := (va_up (va_up (va_up (va_up v 8 (.int g0)) 9 (.int (bI m2))) 10 (.int (nI (nL b)))) 11 (.int (nI 0))) 12) hx hb hts in_X9 hown hK hM hR rfl 12 (by decide) fl_36 (fun _ h => h) rfl dX9_board_170 ?_
            refine tpv ((va_up_ne _ _ (by decide)).trans ((va_up_ne _ _ (by decide)).trans ((va_up_ne _ _ (by decide)).trans ((va_up_ne _ _ (by decide)).trans (hv12))))) ?_
            refine lv_iconst (v := 2) hx hb dX9_board_173 (by decide) ?_
            refine lv_iload_n hx hb dX9_board_174 rfl (lv_at hl 3 rfl) ?_
            refine lv_iconst (v := 3) hx hb dX9_board_175 (by decide) ?_
            refine bi_ne (tgt := 184) hx hb dX9_board_176 (by decide) (fun c_176 n_176 => ?_) (fun c_176 n_176 => ?_)
            · skip
              have q3 : ¬ nB g0 = 3 := fun z => c_176 (by rw [eg, z]; rfl)
              refine lv_lconst (v := 0) hx hb dX9_board_184 (by decide) ?_
              refine m_lastN (k := 2) hx hb hK hh hhp (rfl) (by decide) (by decide) dX9_board_185 (fun M1 H1 locs1 e1 hh => ?_)
              have hR := mu_kp e1 (mp_ne hR hhp (by simp)) hR
              have hbd := mu_kp e1 (mp_ne hbd hhp (by simp)) hbd
              have hfl := mu_kp e1 (mp_ne hfl hhp (by simp)) hfl
              have hhp := mu_at e1
              have hkp := hkp.put e1 (by simp)
              have hhp : M1 hp = some (.inl (cA 0, 603, .inr (.inl (vp_updL (vp_updL (vp_updL fh 0 a) 1 0) 2 0)))) := hhp
              have hM := hh.1
              refine lv_aload_n hx hb dX9_board_186 rfl (lv_at hl 2 rfl) ?_
              refine m_get (ci := 9) (C := RX9) (T := TX9) (N := 18) (v := (va_up (va_up (va_up (va_up v 8 (.int g0)) 9 (.int (bI m2))) 10 (.int (nI (nL b)))) 11 (.int (nI 0))) 13) hx hb hts in_X9 hown hK hM hR rfl 13 (by decide) fl_39 (fun _ h => h) rfl dX9_board_187 ?_
              refine tpv ((va_up_ne _ _ (by decide)).trans ((va_up_ne _ _ (by decide)).trans ((va_up_ne _ _ (by decide)).trans ((va_up_ne _ _ (by decide)).trans (hv13))))) ?_
              refine lv_iconst (v := 0) hx hb dX9_board_190 (by decide) ?_
              refine lv_iload_n hx hb dX9_board_191 rfl (lv_at hl 3 rfl) ?_
              refine lv_iconst (v := 2) hx hb dX9_board_192 (by decide) ?_
              refine bi_ne (tgt := 208) hx hb dX9_board_193 (by decide) (fun c_193 n_193 => ?_) (fun c_193 n_193 => ?_)
              · exact absurd c_127 c_193
              · skip
                refine lv_lload_n hx hb dX9_board_196 rfl (lv_at hl 5 rfl) ?_
                refine lv_lconst (v := 0) hx hb dX9_board_197 (by decide) ?_
                refine bl_le (tgt := 208) hx hb dX9_board_198 dX9_board_199 (by decide) (fun c_199 n_199 => ?_) (fun c_199 n_199 => ?_)
                · skip
                  have hap : nL a = 0 := by have := (leL ea l_0 (by omega) (by decide)).mp c_199; omega
                  refine lv_lconst (v := 0) hx hb dX9_board_208 (by decide) ?_
                  refine tpl (x' := lN (nL a - 1)) (by rw [hap]; rfl) ?_
                  refine m_lastN (k := 0) hx hb hK hh hbd (rfl) (by decide) (by decide) dX9_board_209 (fun M1 H1 locs1 e1 hh => ?_)
                  have hR := mu_kp e1 (mp_ne hR hbd (by simp)) hR
                  have hhp := mu_kp e1 (mp_ne hhp hbd (by simp)) hhp
                  have hfl := mu_kp e1 (mp_ne hfl hbd (by simp)) hfl
                  have hbd := mu_at e1
                  have hkp := hkp.put e1 (by simp)
                  have hbd : M1 bd = some (.inl (cA 0, 201, .inr (.inl (vp_updL fb2 0 (lN (nL a - 1)))))) := hbd
                  have hM := hh.1
                  refine lv_aload_n hx hb dX9_board_210 rfl (lv_at hl 2 rfl) ?_
                  refine m_get (ci := 9) (C := RX9) (T := TX9) (N := 18) (v := (va_up (va_up (va_up (va_up v 8 (.int g0)) 9 (.int (bI m2))) 10 (.int (nI (nL b)))) 11 (.int (nI 0))) 14) hx hb hts in_X9 hown hK hM hR rfl 14 (by decide) fl_42 (fun _ h => h) rfl dX9_board_211 ?_
                  refine tpv ((va_up_ne _ _ (by decide)).trans ((va_up_ne _ _ (by decide)).trans ((va_up_ne _ _ (by decide)).trans ((va_up_ne _ _ (by decide)).trans (hv14))))) ?_
                  refine lv_iconst (v := 0) hx hb dX9_board_214 (by decide) ?_
                  refine lv_iconst (v := 0) hx hb dX9_board_215 (by decide) ?_
                  refine m_iastN (k := 0) hx hb hK hh hfl (rfl) (by decide) (by decide) dX9_board_216 (fun M1 H1 locs1 e1 hh => ?_)
                  have hR := mu_kp e1 (mp_ne hR hfl (by simp)) hR
                  have hhp := mu_kp e1 (mp_ne hhp hfl (by simp)) hhp
                  have hbd := mu_kp e1 (mp_ne hbd hfl (by simp)) hbd
                  have hfl := mu_at e1
                  have hkp := hkp.put e1 (by simp)
                  have hfl : M1 fl = some (.inl (cA 1, 201, .inl (upd ff 0 0))) := hfl
                  have hM := hh.1
                  refine lv_iconst (v := 1) hx hb dX9_board_217 (by decide) ?_
                  exact hreti _ _ _ _ _ _ _ _ hh (Or.inl ⟨h9, rfl, ⟨_, _, _, _, hA.brd hkp hR ⟨(va_up_ne _ _ (by decide)).trans ((va_up_ne _ _ (by decide)).trans ((va_up_ne _ _ (by decide)).trans ((va_up_ne _ _ (by decide)).trans (hv0)))), (va_up_ne _ _ (by decide)).trans ((va_up_ne _ _ (by decide)).trans ((va_up_ne _ _ (by decide)).trans ((va_up_ne _ _ (by decide)).trans (hv1)))), (va_up_ne _ _ (by decide)).trans ((va_up_ne _ _ (by decide)).trans ((va_up_ne _ _ (by decide)).trans ((va_up_ne _ _ (by decide)).trans (hv3)))), (va_up_ne _ _ (by decide)).trans ((va_up_ne _ _ (by decide)).trans ((va_up_ne _ _ (by decide)).trans ((va_up_ne _ _ (by decide)).trans (hv4)))), (va_up_ne _ _ (by decide)).trans ((va_up_ne _ _ (by decide)).trans ((va_up_ne _ _ (by decide)).trans ((va_up_ne _ _ (by decide)).trans (hv5)))), (va_up_ne _ _ (by decide)).trans ((va_up_ne _ _ (by decide)).trans ((va_up_ne _ _ (by decide)).trans ((va_up_ne _ _ (by decide)).trans (hv6)))), (va_up_ne _ _ (by decide)).trans ((va_up_ne _ _ (by decide)).trans ((va_up_ne _ _ (by decide)).trans ((va_up_ne _ _ (by decide)).trans (hv7)))), (va_up_ne _ _ (by decide)).trans ((va_up_ne _ _ (by decide)).trans ((va_up_ne _ _ (by decide)).trans ((va_up_ne _ _ (by decide)).trans (hv12)))), (va_up_ne _ _ (by decide)).trans ((va_up_ne _ _ (by decide)).trans ((va_up_ne _ _ (by decide)).trans ((va_up_ne _ _ (by decide)).trans (hv13)))), (va_up_ne _ _ (by decide)).trans ((va_up_ne _ _ (by decide)).trans ((va_up_ne _ _ (by decide)).trans ((va_up_ne _ _ (by decide)).trans (hv14))))⟩ hhp hbd hfl, by rw [← eg]; exact (va_up_ne _ _ (by decide)).trans ((va_up_ne _ _ (by decide)).trans ((va_up_ne _ _ (by decide)).trans (va_up_self _ _ _))), (va_up_ne _ _ (by decide)).trans ((va_up_ne _ _ (by decide)).trans (va_up_self _ _ _)), by rw [if_pos q2]; exact (va_up_ne _ _ (by decide)).trans (va_up_self _ _ _), va_up_self _ _ _, fun k hk => by rcases (show k = 0 ∨ k = 1 ∨ k = 2 by omega) with e | e | e <;> subst e; (rw [hv0_0, pk_uLn (by decide), pk_uLn (by decide), pk_uLs]; exact ea); (rw [hv0_1, if_pos q2, pk_uLn (by decide), pk_uLs]; rfl); (rw [hv0_2, if_neg q3, pk_uLs]; rfl), fun t1 lm => by rw [pk_uLs]; unfold bdV; rw [if_pos q2, if_pos rfl], pk_us⟩, hkp⟩) (by decide) (by decide) dX9_board_218 rfl
                · skip
                  have hap : 1 ≤ nL a := (ltL l_0 ea (by decide) (by omega)).mp c_199
                  refine lv_lload_n hx hb dX9_board_202 rfl (lv_at hl 5 rfl) ?_
                  refine lv_lconst (v := 1) hx hb dX9_board_203 (by decide) ?_
                  refine lv_lsub hx hb dX9_board_204 ?_
                  refine tpl (x' := lN (nL a - 1)) (by rw [ea, l_1]; rw [← ea]; exact (congrArg (· - lN 1) ea).trans (lN_sub hap)) ?_
                  refine lv_goto (tgt := 209) hx hb dX9_board_205 (by decide) ?_
                  refine m_lastN (k := 0) hx hb hK hh hbd (rfl) (by decide) (by decide) dX9_board_209 (fun M1 H1 locs1 e1 hh => ?_)
                  have hR := mu_kp e1 (mp_ne hR hbd (by simp)) hR
                  have hhp := mu_kp e1 (mp_ne hhp hbd (by simp)) hhp
                  have hfl := mu_kp e1 (mp_ne hfl hbd (by simp)) hfl
                  have hbd := mu_at e1
                  have hkp := hkp.put e1 (by simp)
                  have hbd : M1 bd = some (.inl (cA 0, 201, .inr (.inl (vp_updL fb2 0 (lN (nL a - 1)))))) := hbd
                  have hM := hh.1
                  refine lv_aload_n hx hb dX9_board_210 rfl (lv_at hl 2 rfl) ?_
                  refine m_get (ci := 9) (C := RX9) (T := TX9) (N := 18) (v := (va_up (va_up (va_up (va_up v 8 (.int g0)) 9 (.int (bI m2))) 10 (.int (nI (nL b)))) 11 (.int (nI 0))) 14) hx hb hts in_X9 hown hK hM hR rfl 14 (by decide) fl_42 (fun _ h => h) rfl dX9_board_211 ?_
                  refine tpv ((va_up_ne _ _ (by decide)).trans ((va_up_ne _ _ (by decide)).trans ((va_up_ne _ _ (by decide)).trans ((va_up_ne _ _ (by decide)).trans (hv14))))) ?_
                  refine lv_iconst (v := 0) hx hb dX9_board_214 (by decide) ?_
                  refine lv_iconst (v := 0) hx hb dX9_board_215 (by decide) ?_
                  refine m_iastN (k := 0) hx hb hK hh hfl (rfl) (by decide) (by decide) dX9_board_216 (fun M1 H1 locs1 e1 hh => ?_)
                  have hR := mu_kp e1 (mp_ne hR hfl (by simp)) hR
                  have hhp := mu_kp e1 (mp_ne hhp hfl (by simp)) hhp
                  have hbd := mu_kp e1 (mp_ne hbd hfl (by simp)) hbd
                  have hfl := mu_at e1
                  have hkp := hkp.put e1 (by simp)
                  have hfl : M1 fl = some (.inl (cA 1, 201, .inl (upd ff 0 0))) := hfl
                  have hM := hh.1
                  refine lv_iconst (v := 1) hx hb dX9_board_217 (by decide) ?_
                  exact hreti _ _ _ _ _ _ _ _ hh (Or.inl ⟨h9, rfl, ⟨_, _, _, _, hA.brd hkp hR ⟨(va_up_ne _ _ (by decide)).trans ((va_up_ne _ _ (by decide)).trans ((va_up_ne _ _ (by decide)).trans ((va_up_ne _ _ (by decide)).trans (hv0)))), (va_up_ne _ _ (by decide)).trans ((va_up_ne _ _ (by decide)).trans ((va_up_ne _ _ (by decide)).trans ((va_up_ne _ _ (by decide)).trans (hv1)))), (va_up_ne _ _ (by decide)).trans ((va_up_ne _ _ (by decide)).trans ((va_up_ne _ _ (by decide)).trans ((va_up_ne _ _ (by decide)).trans (hv3)))), (va_up_ne _ _ (by decide)).trans ((va_up_ne _ _ (by decide)).trans ((va_up_ne _ _ (by decide)).trans ((va_up_ne _ _ (by decide)).trans (hv4)))), (va_up_ne _ _ (by decide)).trans ((va_up_ne _ _ (by decide)).trans ((va_up_ne _ _ (by decide)).trans ((va_up_ne _ _ (by decide)).trans (hv5)))), (va_up_ne _ _ (by decide)).trans ((va_up_ne _ _ (by decide)).trans ((va_up_ne _ _ (by decide)).trans ((va_up_ne _ _ (by decide)).trans (hv6)))), (va_up_ne _ _ (by decide)).trans ((va_up_ne _ _ (by decide)).trans ((va_up_ne _ _ (by decide)).trans ((va_up_ne _ _ (by decide)).trans (hv7)))), (va_up_ne _ _ (by decide)).trans ((va_up_ne _ _ (by decide)).trans ((va_up_ne _ _ (by decide)).trans ((va_up_ne _ _ (by decide)).trans (hv12)))), (va_up_ne _ _ (by decide)).trans ((va_up_ne _ _ (by decide)).trans ((va_up_ne _ _ (by decide)).trans ((va_up_ne _ _ (by decide)).trans (hv13)))), (va_up_ne _ _ (by decide)).trans ((va_up_ne _ _ (by decide)).trans ((va_up_ne _ _ (by decide)).trans ((va_up_ne _ _ (by decide)).trans (hv14))))⟩ hhp hbd hfl, by rw [← eg]; exact (va_up_ne _ _ (by decide)).trans ((va_up_ne _ _ (by decide)).trans ((va_up_ne _ _ (by decide)).trans (va_up_self _ _ _))), (va_up_ne _ _ (by decide)).trans ((va_up_ne _ _ (by decide)).trans (va_up_self _ _ _)), by rw [if_pos q2]; exact (va_up_ne _ _ (by decide)).trans (va_up_self _ _ _), va_up_self _ _ _, fun k hk => by rcases (show k = 0 ∨ k = 1 ∨ k = 2 by omega) with e | e | e <;> subst e; (rw [hv0_0, pk_uLn (by decide), pk_uLn (by decide), pk_uLs]; exact ea); (rw [hv0_1, if_pos q2, pk_uLn (by decide), pk_uLs]; rfl); (rw [hv0_2, if_neg q3, pk_uLs]; rfl), fun t1 lm => by rw [pk_uLs]; unfold bdV; rw [if_pos q2, if_pos rfl], pk_us⟩, hkp⟩) (by decide) (by decide) dX9_board_218 rfl
            · skip
              have q3 : nB g0 = 3 := by rw [c_176]; decide
              refine lv_lload hx hb dX9_board_179 (lv_at hl 7 rfl) ?_
              refine lv_goto (tgt := 185) hx hb dX9_board_181 (by decide) ?_
              refine m_lastN (k := 2) hx hb hK hh hhp (rfl) (by decide) (by decide) dX9_board_185 (fun M1 H1 locs1 e1 hh => ?_)
              have hR := mu_kp e1 (mp_ne hR hhp (by simp)) hR
              have hbd := mu_kp e1 (mp_ne hbd hhp (by simp)) hbd
              have hfl := mu_kp e1 (mp_ne hfl hhp (by simp)) hfl
              have hhp := mu_at e1
              have hkp := hkp.put e1 (by simp)
              have hhp : M1 hp = some (.inl (cA 0, 603, .inr (.inl (vp_updL (vp_updL (vp_updL fh 0 a) 1 0) 2 c0)))) := hhp
              have hM := hh.1
              refine lv_aload_n hx hb dX9_board_186 rfl (lv_at hl 2 rfl) ?_
              refine m_get (ci := 9) (C := RX9) (T := TX9) (N := 18) (v := (va_up (va_up (va_up (va_up v 8 (.int g0)) 9 (.int (bI m2))) 10 (.int (nI (nL b)))) 11 (.int (nI 0))) 13) hx hb hts in_X9 hown hK hM hR rfl 13 (by decide) fl_39 (fun _ h => h) rfl dX9_board_187 ?_
              refine tpv ((va_up_ne _ _ (by decide)).trans ((va_up_ne _ _ (by decide)).trans ((va_up_ne _ _ (by decide)).trans ((va_up_ne _ _ (by decide)).trans (hv13))))) ?_
              refine lv_iconst (v := 0) hx hb dX9_board_190 (by decide) ?_
              refine lv_iload_n hx hb dX9_board_191 rfl (lv_at hl 3 rfl) ?_
              refine lv_iconst (v := 2) hx hb dX9_board_192 (by decide) ?_
              refine bi_ne (tgt := 208) hx hb dX9_board_193 (by decide) (fun c_193 n_193 => ?_) (fun c_193 n_193 => ?_)
              · exact absurd c_127 c_193
              · skip
                refine lv_lload_n hx hb dX9_board_196 rfl (lv_at hl 5 rfl) ?_
                refine lv_lconst (v := 0) hx hb dX9_board_197 (by decide) ?_
                refine bl_le (tgt := 208) hx hb dX9_board_198 dX9_board_199 (by decide) (fun c_199 n_199 => ?_) (fun c_199 n_199 => ?_)
                · skip
                  have hap : nL a = 0 := by have := (leL ea l_0 (by omega) (by decide)).mp c_199; omega
                  refine lv_lconst (v := 0) hx hb dX9_board_208 (by decide) ?_
                  refine tpl (x' := lN (nL a - 1)) (by rw [hap]; rfl) ?_
                  refine m_lastN (k := 0) hx hb hK hh hbd (rfl) (by decide) (by decide) dX9_board_209 (fun M1 H1 locs1 e1 hh => ?_)
                  have hR := mu_kp e1 (mp_ne hR hbd (by simp)) hR
                  have hhp := mu_kp e1 (mp_ne hhp hbd (by simp)) hhp
                  have hfl := mu_kp e1 (mp_ne hfl hbd (by simp)) hfl
                  have hbd := mu_at e1
                  have hkp := hkp.put e1 (by simp)
                  have hbd : M1 bd = some (.inl (cA 0, 201, .inr (.inl (vp_updL fb2 0 (lN (nL a - 1)))))) := hbd
                  have hM := hh.1
                  refine lv_aload_n hx hb dX9_board_210 rfl (lv_at hl 2 rfl) ?_
                  refine m_get (ci := 9) (C := RX9) (T := TX9) (N := 18) (v := (va_up (va_up (va_up (va_up v 8 (.int g0)) 9 (.int (bI m2))) 10 (.int (nI (nL b)))) 11 (.int (nI 0))) 14) hx hb hts in_X9 hown hK hM hR rfl 14 (by decide) fl_42 (fun _ h => h) rfl dX9_board_211 ?_
                  refine tpv ((va_up_ne _ _ (by decide)).trans ((va_up_ne _ _ (by decide)).trans ((va_up_ne _ _ (by decide)).trans ((va_up_ne _ _ (by decide)).trans (hv14))))) ?_
                  refine lv_iconst (v := 0) hx hb dX9_board_214 (by decide) ?_
                  refine lv_iconst (v := 0) hx hb dX9_board_215 (by decide) ?_
                  refine m_iastN (k := 0) hx hb hK hh hfl (rfl) (by decide) (by decide) dX9_board_216 (fun M1 H1 locs1 e1 hh => ?_)
                  have hR := mu_kp e1 (mp_ne hR hfl (by simp)) hR
                  have hhp := mu_kp e1 (mp_ne hhp hfl (by simp)) hhp
                  have hbd := mu_kp e1 (mp_ne hbd hfl (by simp)) hbd
                  have hfl := mu_at e1
                  have hkp := hkp.put e1 (by simp)
                  have hfl : M1 fl = some (.inl (cA 1, 201, .inl (upd ff 0 0))) := hfl
                  have hM := hh.1
                  refine lv_iconst (v := 1) hx hb dX9_board_217 (by decide) ?_
                  exact hreti _ _ _ _ _ _ _ _ hh (Or.inl ⟨h9, rfl, ⟨_, _, _, _, hA.brd hkp hR ⟨(va_up_ne _ _ (by decide)).trans ((va_up_ne _ _ (by decide)).trans ((va_up_ne _ _ (by decide)).trans ((va_up_ne _ _ (by decide)).trans (hv0)))), (va_up_ne _ _ (by decide)).trans ((va_up_ne _ _ (by decide)).trans ((va_up_ne _ _ (by decide)).trans ((va_up_ne _ _ (by decide)).trans (hv1)))), (va_up_ne _ _ (by decide)).trans ((va_up_ne _ _ (by decide)).trans ((va_up_ne _ _ (by decide)).trans ((va_up_ne _ _ (by decide)).trans (hv3)))), (va_up_ne _ _ (by decide)).trans ((va_up_ne _ _ (by decide)).trans ((va_up_ne _ _ (by decide)).trans ((va_up_ne _ _ (by decide)).trans (hv4)))), (va_up_ne _ _ (by decide)).trans ((va_up_ne _ _ (by decide)).trans ((va_up_ne _ _ (by decide)).trans ((va_up_ne _ _ (by decide)).trans (hv5)))), (va_up_ne _ _ (by decide)).trans ((va_up_ne _ _ (by decide)).trans ((va_up_ne _ _ (by decide)).trans ((va_up_ne _ _ (by decide)).trans (hv6)))), (va_up_ne _ _ (by decide)).trans ((va_up_ne _ _ (by decide)).trans ((va_up_ne _ _ (by decide)).trans ((va_up_ne _ _ (by decide)).trans (hv7)))), (va_up_ne _ _ (by decide)).trans ((va_up_ne _ _ (by decide)).trans ((va_up_ne _ _ (by decide)).trans ((va_up_ne _ _ (by decide)).trans (hv12)))), (va_up_ne _ _ (by decide)).trans ((va_up_ne _ _ (by decide)).trans ((va_up_ne _ _ (by decide)).trans ((va_up_ne _ _ (by decide)).trans (hv13)))), (va_up_ne _ _ (by decide)).trans ((va_up_ne _ _ (by decide)).trans ((va_up_ne _ _ (by decide)).trans ((va_up_ne _ _ (by decide)).trans (hv14))))⟩ hhp hbd hfl, by rw [← eg]; exact (va_up_ne _ _ (by decide)).trans ((va_up_ne _ _ (by decide)).trans ((va_up_ne _ _ (by decide)).trans (va_up_self _ _ _))), (va_up_ne _ _ (by decide)).trans ((va_up_ne _ _ (by decide)).trans (va_up_self _ _ _)), by rw [if_pos q2]; exact (va_up_ne _ _ (by decide)).trans (va_up_self _ _ _), va_up_self _ _ _, fun k hk => by rcases (show k = 0 ∨ k = 1 ∨ k = 2 by omega) with e | e | e <;> subst e; (rw [hv0_0, pk_uLn (by decide), pk_uLn (by decide), pk_uLs]; exact ea); (rw [hv0_1, if_pos q2, pk_uLn (by decide), pk_uLs]; rfl); (rw [hv0_2, if_pos q3, pk_uLs]; exact hc3 q3), fun t1 lm => by rw [pk_uLs]; unfold bdV; rw [if_pos q2, if_pos rfl], pk_us⟩, hkp⟩) (by decide) (by decide) dX9_board_218 rfl
                · skip
                  have hap : 1 ≤ nL a := (ltL l_0 ea (by decide) (by omega)).mp c_199
                  refine lv_lload_n hx hb dX9_board_202 rfl (lv_at hl 5 rfl) ?_
                  refine lv_lconst (v := 1) hx hb dX9_board_203 (by decide) ?_
                  refine lv_lsub hx hb dX9_board_204 ?_
                  refine tpl (x' := lN (nL a - 1)) (by rw [ea, l_1]; rw [← ea]; exact (congrArg (· - lN 1) ea).trans (lN_sub hap)) ?_
                  refine lv_goto (tgt := 209) hx hb dX9_board_205 (by decide) ?_
                  refine m_lastN (k := 0) hx hb hK hh hbd (rfl) (by decide) (by decide) dX9_board_209 (fun M1 H1 locs1 e1 hh => ?_)
                  have hR := mu_kp e1 (mp_ne hR hbd (by simp)) hR
                  have hhp := mu_kp e1 (mp_ne hhp hbd (by simp)) hhp
                  have hfl := mu_kp e1 (mp_ne hfl hbd (by simp)) hfl
                  have hbd := mu_at e1
                  have hkp := hkp.put e1 (by simp)
                  have hbd : M1 bd = some (.inl (cA 0, 201, .inr (.inl (vp_updL fb2 0 (lN (nL a - 1)))))) := hbd
                  have hM := hh.1
                  refine lv_aload_n hx hb dX9_board_210 rfl (lv_at hl 2 rfl) ?_
                  refine m_get (ci := 9) (C := RX9) (T := TX9) (N := 18) (v := (va_up (va_up (va_up (va_up v 8 (.int g0)) 9 (.int (bI m2))) 10 (.int (nI (nL b)))) 11 (.int (nI 0))) 14) hx hb hts in_X9 hown hK hM hR rfl 14 (by decide) fl_42 (fun _ h => h) rfl dX9_board_211 ?_
                  refine tpv ((va_up_ne _ _ (by decide)).trans ((va_up_ne _ _ (by decide)).trans ((va_up_ne _ _ (by decide)).trans ((va_up_ne _ _ (by decide)).trans (hv14))))) ?_
                  refine lv_iconst (v := 0) hx hb dX9_board_214 (by decide) ?_
                  refine lv_iconst (v := 0) hx hb dX9_board_215 (by decide) ?_
                  refine m_iastN (k := 0) hx hb hK hh hfl (rfl) (by decide) (by decide) dX9_board_216 (fun M1 H1 locs1 e1 hh => ?_)
                  have hR := mu_kp e1 (mp_ne hR hfl (by simp)) hR
                  have hhp := mu_kp e1 (mp_ne hhp hfl (by simp)) hhp
                  have hbd := mu_kp e1 (mp_ne hbd hfl (by simp)) hbd
                  have hfl := mu_at e1
                  have hkp := hkp.put e1 (by simp)
                  have hfl : M1 fl = some (.inl (cA 1, 201, .inl (upd ff 0 0))) := hfl
                  have hM := hh.1
                  refine lv_iconst (v := 1) hx hb dX9_board_217 (by decide) ?_
                  exact hreti _ _ _ _ _ _ _ _ hh (Or.inl ⟨h9, rfl, ⟨_, _, _, _, hA.brd hkp hR ⟨(va_up_ne _ _ (by decide)).trans ((va_up_ne _ _ (by decide)).trans ((va_up_ne _ _ (by decide)).trans ((va_up_ne _ _ (by decide)).trans (hv0)))), (va_up_ne _ _ (by decide)).trans ((va_up_ne _ _ (by decide)).trans ((va_up_ne _ _ (by decide)).trans ((va_up_ne _ _ (by decide)).trans (hv1)))), (va_up_ne _ _ (by decide)).trans ((va_up_ne _ _ (by decide)).trans ((va_up_ne _ _ (by decide)).trans ((va_up_ne _ _ (by decide)).trans (hv3)))), (va_up_ne _ _ (by decide)).trans ((va_up_ne _ _ (by decide)).trans ((va_up_ne _ _ (by decide)).trans ((va_up_ne _ _ (by decide)).trans (hv4)))), (va_up_ne _ _ (by decide)).trans ((va_up_ne _ _ (by decide)).trans ((va_up_ne _ _ (by decide)).trans ((va_up_ne _ _ (by decide)).trans (hv5)))), (va_up_ne _ _ (by decide)).trans ((va_up_ne _ _ (by decide)).trans ((va_up_ne _ _ (by decide)).trans ((va_up_ne _ _ (by decide)).trans (hv6)))), (va_up_ne _ _ (by decide)).trans ((va_up_ne _ _ (by decide)).trans ((va_up_ne _ _ (by decide)).trans ((va_up_ne _ _ (by decide)).trans (hv7)))), (va_up_ne _ _ (by decide)).trans ((va_up_ne _ _ (by decide)).trans ((va_up_ne _ _ (by decide)).trans ((va_up_ne _ _ (by decide)).trans (hv12)))), (va_up_ne _ _ (by decide)).trans ((va_up_ne _ _ (by decide)).trans ((va_up_ne _ _ (by decide)).trans ((va_up_ne _ _ (by decide)).trans (hv13)))), (va_up_ne _ _ (by decide)).trans ((va_up_ne _ _ (by decide)).trans ((va_up_ne _ _ (by decide)).trans ((va_up_ne _ _ (by decide)).trans (hv14))))⟩ hhp hbd hfl, by rw [← eg]; exact (va_up_ne _ _ (by decide)).trans ((va_up_ne _ _ (by decide)).trans ((va_up_ne _ _ (by decide)).trans (va_up_self _ _ _))), (va_up_ne _ _ (by decide)).trans ((va_up_ne _ _ (by decide)).trans (va_up_self _ _ _)), by rw [if_pos q2]; exact (va_up_ne _ _ (by decide)).trans (va_up_self _ _ _), va_up_self _ _ _, fun k hk => by rcases (show k = 0 ∨ k = 1 ∨ k = 2 by omega) with e | e | e <;> subst e; (rw [hv0_0, pk_uLn (by decide), pk_uLn (by decide), pk_uLs]; exact ea); (rw [hv0_1, if_pos q2, pk_uLn (by decide), pk_uLs]; rfl); (rw [hv0_2, if_pos q3, pk_uLs]; exact hc3 q3), fun t1 lm => by rw [pk_uLs]; unfold bdV; rw [if_pos q2, if_pos rfl], pk_us⟩, hkp⟩) (by decide) (by decide) dX9_board_218 rfl
      · skip
        have h9 := bI_eq0 c_108
        rw [hfz] at h9
        refine lv_bipush (v := (-2)) hx hb dX9_board_111 (by decide) ?_
        exact hreti _ _ _ _ _ _ _ _ hh (Or.inr ⟨h9, rfl, rfl⟩) (by decide) (by decide) dX9_board_113 rfl
    refine lv_iload_n hx hb dX9_board_26 rfl (lv_at hl 2 rfl) ?_
    refine lv_i2l hx hb dX9_board_27 rfl ?_
    refine lv_lconst (v := 0) hx hb dX9_board_28 (by decide) ?_
    refine lv_ldc2 hx hb hown cst_136 dX9_board_29 ?_
    refine cpS (As := [.long ((g0).toInt64), .long 0, .long 3]) (rest := []) (k_X9_in l D cA _ (g0.toInt64) 0 3) ⟨hx, hb, hml, hown, hts⟩ (va_cwS 3 hts gX9_board_X9_in rfl rfl rfl (by decide +kernel) ⟨by decide, by decide⟩) hK hM rfl hl.1 rfl (Nat.le_of_ble_eq_true rfl) dX9_board_32 ⟨by decide, by decide⟩ ?_
    refine bz_eq (tgt := 103) hx hb dX9_board_35 (by decide) (fun c_35 n_35 => ?_) (fun c_35 n_35 => ?_)
    · skip
      have h1 := bI_eq0 c_35
      refine lv_iconst (v := 0) hx hb dX9_board_103 (by decide) ?_
      refine tpi (x' := bI false) (rfl) ?_
      exact j_104 false _ (by rw [ah_eq, h1] <;> rfl) (lv_sub hl [0, 1, 2, 3, 4, 5, 6] rfl)
    · skip
      have h1 := bI_ne0 c_35
      refine lv_lload_n hx hb dX9_board_38 rfl (lv_at hl 4 rfl) ?_
      refine lv_lconst (v := 0) hx hb dX9_board_39 (by decide) ?_
      refine lv_lload hx hb dX9_board_40 (lv_at hl 0 rfl) ?_
      refine cpS (As := [.long a, .long 0, .long (moV g0 m2)]) (rest := []) (k_X9_in l D cA _ (a) 0 (moV g0 m2)) ⟨hx, hb, hml, hown, hts⟩ (va_cwS 3 hts gX9_board_X9_in rfl rfl rfl (by decide +kernel) ⟨by decide, by decide⟩) hK hM rfl hl.1 rfl (Nat.le_of_ble_eq_true rfl) dX9_board_42 ⟨by decide, by decide⟩ ?_
      refine bz_eq (tgt := 103) hx hb dX9_board_45 (by decide) (fun c_45 n_45 => ?_) (fun c_45 n_45 => ?_)
      · skip
        have h2 := bI_eq0 c_45
        refine lv_iconst (v := 0) hx hb dX9_board_103 (by decide) ?_
        refine tpi (x' := bI false) (rfl) ?_
        exact j_104 false _ (by rw [ah_eq, h1, h2] <;> rfl) (lv_sub hl [0, 1, 2, 3, 4, 5, 6] rfl)
      · skip
        have h2 := bI_ne0 c_45
        refine lv_iload_n hx hb dX9_board_48 rfl (lv_at hl 2 rfl) ?_
        refine lv_iconst (v := 2) hx hb dX9_board_49 (by decide) ?_
        refine bi_ne (tgt := 72) hx hb dX9_board_50 (by decide) (fun c_50 n_50 => ?_) (fun c_50 n_50 => ?_)
        · skip
          refine lv_lload hx hb dX9_board_72 (lv_at hl 5 rfl) ?_
          refine lv_lconst (v := 0) hx hb dX9_board_74 (by decide) ?_
          refine lv_lload hx hb dX9_board_75 (lv_at hl 0 rfl) ?_
          refine cpS (As := [.long b, .long 0, .long (moV g0 m2)]) (rest := []) (k_X9_in l D cA _ (b) 0 (moV g0 m2)) ⟨hx, hb, hml, hown, hts⟩ (va_cwS 3 hts gX9_board_X9_in rfl rfl rfl (by decide +kernel) ⟨by decide, by decide⟩) hK hM rfl hl.1 rfl (Nat.le_of_ble_eq_true rfl) dX9_board_77 ⟨by decide, by decide⟩ ?_
          refine bz_eq (tgt := 103) hx hb dX9_board_80 (by decide) (fun c_80 n_80 => ?_) (fun c_80 n_80 => ?_)
          · skip
            have h5 := bI_eq0 c_80
            refine lv_iconst (v := 0) hx hb dX9_board_103 (by decide) ?_
            refine tpi (x' := bI false) (rfl) ?_
            exact j_104 false _ (by rw [ah_eq, h1, h2, if_neg c_50, h5] <;> rfl) (lv_sub hl [0, 1, 2, 3, 4, 5, 6] rfl)
          · skip
            have h5 := bI_ne0 c_80
            refine lv_iload_n hx hb dX9_board_83 rfl (lv_at hl 2 rfl) ?_
            refine lv_iconst (v := 3) hx hb dX9_board_84 (by decide) ?_
            refine bi_ne (tgt := 99) hx hb dX9_board_85 (by decide) (fun c_85 n_85 => ?_) (fun c_85 n_85 => ?_)
            · skip
              refine lv_iconst (v := 1) hx hb dX9_board_99 (by decide) ?_
              refine tpi (x' := bI true) (rfl) ?_
              refine lv_goto (tgt := 104) hx hb dX9_board_100 (by decide) ?_
              exact j_104 true _ (by rw [ah_eq, h1, h2, if_neg c_50, h5, if_neg c_85] <;> rfl) (lv_sub hl [0, 1, 2, 3, 4, 5, 6] rfl)
            · skip
              refine lv_lload hx hb dX9_board_88 (lv_at hl 6 rfl) ?_
              refine lv_lconst (v := 0) hx hb dX9_board_90 (by decide) ?_
              refine lv_lload hx hb dX9_board_91 (lv_at hl 0 rfl) ?_
              refine cpS (As := [.long c0, .long 0, .long (moV g0 m2)]) (rest := []) (k_X9_in l D cA _ (c0) 0 (moV g0 m2)) ⟨hx, hb, hml, hown, hts⟩ (va_cwS 3 hts gX9_board_X9_in rfl rfl rfl (by decide +kernel) ⟨by decide, by decide⟩) hK hM rfl hl.1 rfl (Nat.le_of_ble_eq_true rfl) dX9_board_93 ⟨by decide, by decide⟩ ?_
              refine bz_eq (tgt := 103) hx hb dX9_board_96 (by decide) (fun c_96 n_96 => ?_) (fun c_96 n_96 => ?_)
              · skip
                have h6 := bI_eq0 c_96
                refine lv_iconst (v := 0) hx hb dX9_board_103 (by decide) ?_
                refine tpi (x' := bI false) (rfl) ?_
                exact j_104 false _ (by rw [ah_eq, h1, h2, if_neg c_50, h5, if_pos c_85, h6] <;> rfl) (lv_sub hl [0, 1, 2, 3, 4, 5, 6] rfl)
              · skip
                have h6 := bI_ne0 c_96
                refine lv_iconst (v := 1) hx hb dX9_board_99 (by decide) ?_
                refine tpi (x' := bI true) (rfl) ?_
                refine lv_goto (tgt := 104) hx hb dX9_board_100 (by decide) ?_
                exact j_104 true _ (by rw [ah_eq, h1, h2, if_neg c_50, h5, if_pos c_85, h6] <;> rfl) (lv_sub hl [0, 1, 2, 3, 4, 5, 6] rfl)
        · skip
          refine lv_lload hx hb dX9_board_53 (lv_at hl 5 rfl) ?_
          refine lv_lconst (v := 1) hx hb dX9_board_55 (by decide) ?_
          refine lv_ldc2 hx hb hown cst_93 dX9_board_56 ?_
          refine cpS (As := [.long b, .long 1, .long 9]) (rest := []) (k_X9_in l D cA _ (b) 1 9) ⟨hx, hb, hml, hown, hts⟩ (va_cwS 3 hts gX9_board_X9_in rfl rfl rfl (by decide +kernel) ⟨by decide, by decide⟩) hK hM rfl hl.1 rfl (Nat.le_of_ble_eq_true rfl) dX9_board_59 ⟨by decide, by decide⟩ ?_
          refine bz_eq (tgt := 103) hx hb dX9_board_62 (by decide) (fun c_62 n_62 => ?_) (fun c_62 n_62 => ?_)
          · skip
            have h3 := bI_eq0 c_62
            refine lv_iconst (v := 0) hx hb dX9_board_103 (by decide) ?_
            refine tpi (x' := bI false) (rfl) ?_
            exact j_104 false _ (by rw [ah_eq, h1, h2, if_pos c_50, h3] <;> rfl) (lv_sub hl [0, 1, 2, 3, 4, 5, 6] rfl)
          · skip
            have h3 := bI_ne0 c_62
            refine lv_iload_n hx hb dX9_board_65 rfl (lv_at hl 3 rfl) ?_
            refine bz_ne (tgt := 103) hx hb dX9_board_66 (by decide) (fun c_66 n_66 => ?_) (fun c_66 n_66 => ?_)
            · skip
              have h4 := bI_ne0 c_66
              refine lv_iconst (v := 0) hx hb dX9_board_103 (by decide) ?_
              refine tpi (x' := bI false) (rfl) ?_
              exact j_104 false _ (by rw [ah_eq, h1, h2, if_pos c_50, h3, h4] <;> rfl) (lv_sub hl [0, 1, 2, 3, 4, 5, 6] rfl)
            · skip
              have h4 := bI_eq0 c_66
              refine lv_goto (tgt := 83) hx hb dX9_board_69 (by decide) ?_
              refine lv_iload_n hx hb dX9_board_83 rfl (lv_at hl 2 rfl) ?_
              refine lv_iconst (v := 3) hx hb dX9_board_84 (by decide) ?_
              refine bi_ne (tgt := 99) hx hb dX9_board_85 (by decide) (fun c_85 n_85 => ?_) (fun c_85 n_85 => ?_)
              · skip
                refine lv_iconst (v := 1) hx hb dX9_board_99 (by decide) ?_
                refine tpi (x' := bI true) (rfl) ?_
                refine lv_goto (tgt := 104) hx hb dX9_board_100 (by decide) ?_
                exact j_104 true _ (by rw [ah_eq, h1, h2, if_pos c_50, h3, h4, if_neg c_85] <;> rfl) (lv_sub hl [0, 1, 2, 3, 4, 5, 6] rfl)
              · exact absurd (c_50.symm.trans c_85) (by decide)
  refine lv_iload_n hx hb dX9_board_0 rfl (lv_at hl 1 rfl) ?_
  refine lv_iconst (v := 3) hx hb dX9_board_1 (by decide) ?_
  refine bi_ne (tgt := 11) hx hb dX9_board_2 (by decide) (fun c_2 n_2 => ?_) (fun c_2 n_2 => ?_)
  · skip
    refine lv_iload_n hx hb dX9_board_11 rfl (lv_at hl 2 rfl) ?_
    refine bz_eq (tgt := 21) hx hb dX9_board_12 (by decide) (fun c_12 n_12 => ?_) (fun c_12 n_12 => ?_)
    · skip
      have qm := bI_eq0 c_12
      refine lv_ldc2 hx hb hown cst_48 dX9_board_21 ?_
      refine tpl (x' := moV g0 m2) (by unfold moV; rw [if_neg c_2, qm]; rfl) ?_
      exact j_24 _ (lv_sub hl [0, 1, 2, 3, 4, 5] rfl)
    · skip
      have qm := bI_ne0 c_12
      refine lv_ldc2 hx hb hown cst_125 dX9_board_15 ?_
      refine tpl (x' := moV g0 m2) (by unfold moV; rw [if_neg c_2, qm]; rfl) ?_
      refine lv_goto (tgt := 24) hx hb dX9_board_18 (by decide) ?_
      exact j_24 _ (lv_sub hl [0, 1, 2, 3, 4, 5] rfl)
  · skip
    refine lv_ldc2 hx hb hown cst_130 dX9_board_5 ?_
    refine tpl (x' := moV g0 m2) (by unfold moV; rw [if_pos c_2]) ?_
    refine lv_goto (tgt := 24) hx hb dX9_board_8 (by decide) ?_
    exact j_24 _ (lv_sub hl [0, 1, 2, 3, 4, 5] rfl)
