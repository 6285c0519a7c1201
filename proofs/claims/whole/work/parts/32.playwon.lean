set_option maxHeartbeats 1000000 in
set_option maxRecDepth 100000 in
theorem k_X4_isWon (l : Launch) (D : va_G) (cA : Nat → ClassId) (M : mp) (P J PH WM MT WF g t mv : Nat) (mi : Bool) (TG GO SG BG TM SM : Nat) (fh fm : Nat → Int64) (hv : Nat → Nat) (lm : Nat)  (hP : M P = some (.inr (4, [.ref J, .ref PH, .ref WM, .ref MT, .ref WF, .int (nI g), .int (bI mi), .int (nI t), .int (nI mv)]))) (hg3 : g ≤ 3) (hPH : M PH = some (.inl (cA 0, 3, .inr (.inl fh)))) (hMT : M MT = some (.inl (cA 0, 200, .inr (.inl fm)))) (hfh : ∀ k, k < 3 → fh k = lN (hv k)) (hfm : 1 ≤ mv → fm (mv - 1) = lN lm) (hlm : lm ≤ 1000000000000) (hmv : mv ≤ 200) (hok : okB g t mi hv) (hJD : jdW cA M J TG GO SG BG TM SM)  : MC l D cA yX4_isWon wsX4_isWon 5 120 3 242 [.ref P] M (fun r M' => r = some (.int (bI (wnF g mi t hv (bdV g t mv (hv 0) lm)))) ∧ jdW cA M' J TG GO SG BG TM SM ∧ kpL M M' [SM, TM]) := by
  refine MC.of (cc := cX4_isWon) (maxL := 1) (ret := (some .boolean)) (by decide) rfl (Nat.le_of_ble_eq_true rfl) ?_
  intro p e s m args below meth c Q ls B hh hl hretv hreti hretz hretl hreta
  obtain ⟨hx, hb, hown, hts, hml, hK, hin⟩ := B
  have hM := hh.1
  have hM_0 := hh.1
  have hkp : kpL M M [SM, TM] := kpL.rf M _
  have hown : s.vm.findClass RX4 = some m.cls := hown
  have hl : lv_has ls 1 [(0, .ref P)] := hl
  have in_X4 : ∀ w ∈ wsX40, w ∈ wsX4_isWon := by decide +kernel
  have fl_26 := hts (.fieldLink RX4 26 "GoldHeaps$Play" "game" "I") (by decide +kernel)
  have fl_34 := hts (.fieldLink RX4 34 "GoldHeaps$Play" "misere" "Z") (by decide +kernel)
  have fl_30 := hts (.fieldLink RX4 30 "GoldHeaps$Play" "judge" "LGoldHeaps$Judge;") (by decide +kernel)
  have fl_11 := hts (.fieldLink RX4 11 "GoldHeaps$Play" "heaps" "[J") (by decide +kernel)
  have in_X2 : ∀ w ∈ wsX20, w ∈ wsX4_isWon := by decide +kernel
  have fl_114 := (hK.2.1 (.fieldLinkNest "GoldHeaps$Play" 114 "GoldHeaps$Judge" "bothGame" "LGoldHeaps$BothGame;" "GoldHeaps") (by decide +kernel)).use (A := args) rfl
  have fl_105 := (hK.2.1 (.fieldLinkNest "GoldHeaps$Play" 105 "GoldHeaps$Judge" "sharesGame" "LGoldHeaps$SharesGame;" "GoldHeaps") (by decide +kernel)).use (A := args) rfl
  have fl_84 := (hK.2.1 (.fieldLinkNest "GoldHeaps$Play" 84 "GoldHeaps$Judge" "timesGame" "LGoldHeaps$TimesGame;" "GoldHeaps") (by decide +kernel)).use (A := args) rfl
  have fl_38 := hts (.fieldLink RX4 38 "GoldHeaps$Play" "t" "I") (by decide +kernel)
  obtain ⟨⟨hj, hsg, hbg, hG0⟩, hT, hW0, hX0⟩ := id hJD
  obtain ⟨s2, n2, f, hgo, hs2, hn2, hf⟩ := id hG0
  obtain ⟨fs0, hSM, -⟩ := id hW0
  obtain ⟨ft0, hTM, -⟩ := id hX0
  obtain ⟨-, hhv, ht9, hg2t, hsm2, hsm3⟩ := id hok
  have hh0 := hhv 0
  have hh1 := hhv 1
  have hh2 := hhv 2
  have hbl := bdV_le (g := g) (t := t) (mv := mv) (lm := lm) (hhv 0)
  refine lv_aload_n hx hb dX4_isWon_0 rfl (lv_at hl 0 rfl) ?_
  refine m_get (ci := 4) (C := RX4) (T := TX4) (N := 9) (v := .int (nI g)) hx hb hts in_X4 hown hK hM hP rfl 5 (by decide) fl_26 (fun _ h => h) rfl dX4_isWon_1 ?_
  refine lv_iconst (v := 2) hx hb dX4_isWon_4 (by decide) ?_
  refine bi_ne (tgt := 33) hx hb dX4_isWon_5 (by decide) (fun c_5 n_5 => ?_) (fun c_5 n_5 => ?_)
  · skip
    have q2 : ¬ g = 2 := fun z => c_5 (by rw [z]; rfl)
    refine lv_aload_n hx hb dX4_isWon_33 rfl (lv_at hl 0 rfl) ?_
    refine m_get (ci := 4) (C := RX4) (T := TX4) (N := 9) (v := .int (bI mi)) hx hb hts in_X4 hown hK hM hP rfl 6 (by decide) fl_34 (fun _ h => h) rfl dX4_isWon_34 ?_
    refine bz_ne (tgt := 48) hx hb dX4_isWon_37 (by decide) (fun c_37 n_37 => ?_) (fun c_37 n_37 => ?_)
    · skip
      have qm := bI_ne0 c_37
      have hgc : g = 0 ∨ g = 1 ∨ g = 3 := by omega
      have hsm2b : g ≤ 1 → hv 0 ≤ 60 ∧ hv 1 ≤ 60 := fun z => hsm2 qm z
      refine lv_aload_n hx hb dX4_isWon_48 rfl (lv_at hl 0 rfl) ?_
      refine m_get (ci := 4) (C := RX4) (T := TX4) (N := 9) (v := .ref J) hx hb hts in_X4 hown hK hM hP rfl 0 (by decide) fl_30 (fun _ h => h) rfl dX4_isWon_49 ?_
      refine lv_aload_n hx hb dX4_isWon_52 rfl (lv_at hl 0 rfl) ?_
      refine m_get (ci := 4) (C := RX4) (T := TX4) (N := 9) (v := .int (nI g)) hx hb hts in_X4 hown hK hM hP rfl 5 (by decide) fl_26 (fun _ h => h) rfl dX4_isWon_53 ?_
      refine lv_aload_n hx hb dX4_isWon_56 rfl (lv_at hl 0 rfl) ?_
      refine m_get (ci := 4) (C := RX4) (T := TX4) (N := 9) (v := .int (bI mi)) hx hb hts in_X4 hown hK hM hP rfl 6 (by decide) fl_34 (fun _ h => h) rfl dX4_isWon_57 ?_
      refine cmV (As := [.int (nI g), .int (bI mi)]) (rest := []) (k_X2_tableOfG l D cA _ g J TG GO SG BG TM mi hgc hj hX0) ⟨hx, hb, hml, hown, hts⟩ (cwV 2 hts gX4_isWon_X2_tableOf rfl rfl rfl (by decide +kernel) ⟨by decide, by decide⟩) hK hh hj rfl rfl hl.1 rfl (Nat.le_of_ble_eq_true rfl) dX4_isWon_60 ⟨by decide, by decide⟩ (fun v9 M1 H1 locs1 hpost hh hz9 hk9 hn9 => ?_)
      obtain ⟨⟨sa, rfl, htab⟩, hX1, hkc⟩ := hpost
      have hW1 := hW0.kT hX0 hkc
      have hJ1 : judW cA M1 J TG GO SG BG TM := hJD.1.kp (kpI.of1 hkc hTM (fun z => z))
      have hT1 := (kpI.of1 hkc hTM (fun z => z)) _ _ hT ⟨by decide, by decide⟩
      obtain ⟨o3, la, hsa1⟩ := htab.obj
      have hsa : M1 sa = some (.inr (3, [.int o3, .ref la])) := hsa1
      have hP : M1 P = some (.inr (4, [.ref J, .ref PH, .ref WM, .ref MT, .ref WF, .int (nI g), .int (bI mi), .int (nI t), .int (nI mv)])) := hkc _ _ hP (ni1 (mp_ne hP hTM (by simp)))
      have hPH : M1 PH = some (.inl (cA 0, 3, .inr (.inl fh))) := hkc _ _ hPH (ni1 (mp_ne hPH hTM (by simp)))
      have hkp := hkp.call hkc (by simp)
      have hM := hh.1
      refine W.widen (k := 3) (n := 123) (by decide) (by decide) ?_
      refine W.eq (g2 := F0 m 63 ls [.ref sa]) rfl ?_
      refine lv_aload_n hx hb dX4_isWon_63 rfl (lv_at hl 0 rfl) ?_
      refine m_get (ci := 4) (C := RX4) (T := TX4) (N := 9) (v := .ref PH) hx hb hts in_X4 hown hK hM hP rfl 1 (by decide) fl_11 (fun _ h => h) rfl dX4_isWon_64 ?_
      refine lv_iconst (v := 0) hx hb dX4_isWon_67 (by decide) ?_
      refine m_laldN (k := 0) hx hb hK hM hPH (rfl) (by decide) (by decide) dX4_isWon_68 ?_
      refine tpl (x' := lN (hv 0)) (hfh 0 (by decide)) ?_
      refine lv_l2i hx hb dX4_isWon_69 rfl ?_
      refine tpi (x' := nI (hv 0)) (lN_i _) ?_
      refine lv_aload_n hx hb dX4_isWon_70 rfl (lv_at hl 0 rfl) ?_
      refine m_get (ci := 4) (C := RX4) (T := TX4) (N := 9) (v := .ref PH) hx hb hts in_X4 hown hK hM hP rfl 1 (by decide) fl_11 (fun _ h => h) rfl dX4_isWon_71 ?_
      refine lv_iconst (v := 1) hx hb dX4_isWon_74 (by decide) ?_
      refine m_laldN (k := 1) hx hb hK hM hPH (rfl) (by decide) (by decide) dX4_isWon_75 ?_
      refine tpl (x' := lN (hv 1)) (hfh 1 (by decide)) ?_
      refine lv_l2i hx hb dX4_isWon_76 rfl ?_
      refine tpi (x' := nI (hv 1)) (lN_i _) ?_
      refine lv_aload_n hx hb dX4_isWon_77 rfl (lv_at hl 0 rfl) ?_
      refine m_get (ci := 4) (C := RX4) (T := TX4) (N := 9) (v := .ref PH) hx hb hts in_X4 hown hK hM hP rfl 1 (by decide) fl_11 (fun _ h => h) rfl dX4_isWon_78 ?_
      refine lv_iconst (v := 2) hx hb dX4_isWon_81 (by decide) ?_
      refine m_laldN (k := 2) hx hb hK hM hPH (rfl) (by decide) (by decide) dX4_isWon_82 ?_
      refine tpl (x' := lN (hv 2)) (hfh 2 (by decide)) ?_
      refine lv_l2i hx hb dX4_isWon_83 rfl ?_
      refine tpi (x' := nI (hv 2)) (lN_i _) ?_
      refine cpV (As := [.int (nI (hv 0)), .int (nI (hv 1)), .int (nI (hv 2))]) (rest := []) (k_X3_hasG l D cA _ g mi sa (hv 0) (hv 1) (hv 2) hgc htab hsm2b hsm3) ⟨hx, hb, hml, hown, hts⟩ (cwV 3 hts gX4_isWon_X3_has rfl rfl rfl (by decide +kernel) ⟨by decide, by decide⟩) hK hM hsa rfl rfl hl.1 rfl (Nat.le_of_ble_eq_true rfl) dX4_isWon_84 ⟨by decide, by decide⟩ ?_
      refine bz_ne (tgt := 94) hx hb dX4_isWon_87 (by decide) (fun c_87 n_87 => ?_) (fun c_87 n_87 => ?_)
      · skip
        have hb9 := bI_ne0 c_87
        refine lv_iconst (v := 0) hx hb dX4_isWon_94 (by decide) ?_
        exact hretz _ _ _ _ _ _ _ _ (wnF g mi t hv (bdV g t mv (hv 0) lm)) hh (by unfold wnF; rw [if_neg q2]; unfold lsG at hb9; by_cases e3 : g = 3; (rw [if_pos e3] at hb9 ⊢; rw [hb9]; rfl); (rw [if_neg e3] at hb9 ⊢; rw [qm] at hb9 ⊢; rw [if_pos rfl, hb9]; rfl)) (⟨rfl, ⟨hJ1, hT1, hW1, hX1⟩, hkp⟩) (by decide) (by decide) dX4_isWon_95 rfl
      · skip
        have hb9 := bI_eq0 c_87
        refine lv_iconst (v := 1) hx hb dX4_isWon_90 (by decide) ?_
        refine lv_goto (tgt := 95) hx hb dX4_isWon_91 (by decide) ?_
        exact hretz _ _ _ _ _ _ _ _ (wnF g mi t hv (bdV g t mv (hv 0) lm)) hh (by unfold wnF; rw [if_neg q2]; unfold lsG at hb9; by_cases e3 : g = 3; (rw [if_pos e3] at hb9 ⊢; rw [hb9]; rfl); (rw [if_neg e3] at hb9 ⊢; rw [qm] at hb9 ⊢; rw [if_pos rfl, hb9]; rfl)) (⟨rfl, ⟨hJ1, hT1, hW1, hX1⟩, hkp⟩) (by decide) (by decide) dX4_isWon_95 rfl
    · skip
      have qm := bI_eq0 c_37
      refine lv_aload_n hx hb dX4_isWon_40 rfl (lv_at hl 0 rfl) ?_
      refine m_get (ci := 4) (C := RX4) (T := TX4) (N := 9) (v := .int (nI g)) hx hb hts in_X4 hown hK hM hP rfl 5 (by decide) fl_26 (fun _ h => h) rfl dX4_isWon_41 ?_
      refine lv_iconst (v := 3) hx hb dX4_isWon_44 (by decide) ?_
      refine bi_ne (tgt := 96) hx hb dX4_isWon_45 (by decide) (fun c_45 n_45 => ?_) (fun c_45 n_45 => ?_)
      · skip
        have q3 : ¬ g = 3 := fun z => c_45 (by rw [z]; rfl)
        refine lv_aload_n hx hb dX4_isWon_96 rfl (lv_at hl 0 rfl) ?_
        refine m_get (ci := 4) (C := RX4) (T := TX4) (N := 9) (v := .int (nI g)) hx hb hts in_X4 hown hK hM hP rfl 5 (by decide) fl_26 (fun _ h => h) rfl dX4_isWon_97 ?_
        refine bz_ne (tgt := 128) hx hb dX4_isWon_100 (by decide) (fun c_100 n_100 => ?_) (fun c_100 n_100 => ?_)
        · skip
          have q0 : ¬ g = 0 := fun z => c_100 (by rw [z]; rfl)
          refine lv_aload_n hx hb dX4_isWon_128 rfl (lv_at hl 0 rfl) ?_
          refine m_get (ci := 4) (C := RX4) (T := TX4) (N := 9) (v := .ref J) hx hb hts in_X4 hown hK hM hP rfl 0 (by decide) fl_30 (fun _ h => h) rfl dX4_isWon_129 ?_
          refine m_getN (ci := 2) (C := RX2) (T := TX2) (N := 5) (v := .ref BG) hx hb hts in_X2 hown hK hM hj rfl 3 (by decide) fl_114 (fun _ h => h) rfl dX4_isWon_132 ?_
          refine lv_aload_n hx hb dX4_isWon_135 rfl (lv_at hl 0 rfl) ?_
          refine m_get (ci := 4) (C := RX4) (T := TX4) (N := 9) (v := .ref PH) hx hb hts in_X4 hown hK hM hP rfl 1 (by decide) fl_11 (fun _ h => h) rfl dX4_isWon_136 ?_
          refine lv_iconst (v := 0) hx hb dX4_isWon_139 (by decide) ?_
          refine m_laldN (k := 0) hx hb hK hM hPH (rfl) (by decide) (by decide) dX4_isWon_140 ?_
          refine tpl (x' := lN (hv 0)) (hfh 0 (by decide)) ?_
          refine lv_aload_n hx hb dX4_isWon_141 rfl (lv_at hl 0 rfl) ?_
          refine m_get (ci := 4) (C := RX4) (T := TX4) (N := 9) (v := .ref PH) hx hb hts in_X4 hown hK hM hP rfl 1 (by decide) fl_11 (fun _ h => h) rfl dX4_isWon_142 ?_
          refine lv_iconst (v := 1) hx hb dX4_isWon_145 (by decide) ?_
          refine m_laldN (k := 1) hx hb hK hM hPH (rfl) (by decide) (by decide) dX4_isWon_146 ?_
          refine tpl (x' := lN (hv 1)) (hfh 1 (by decide)) ?_
          refine cpV (As := [.long (lN (hv 0)), .long (lN (hv 1))]) (rest := []) (k_X0_isWon l D cA _ BG GO (hv 0) (hv 1) hbg hG0 hh0 hh1) ⟨hx, hb, hml, hown, hts⟩ (cwV 2 hts gX4_isWon_X0_isWon rfl rfl rfl (by decide +kernel) ⟨by decide, by decide⟩) hK hM hbg rfl rfl hl.1 rfl (Nat.le_of_ble_eq_true rfl) dX4_isWon_147 ⟨by decide, by decide⟩ ?_
          exact hretz _ _ _ _ _ _ _ _ (wnF g mi t hv (bdV g t mv (hv 0) lm)) hh (by unfold wnF; rw [if_neg q2, if_neg q3, qm]; simp only [Bool.false_eq_true, if_false, q0]) (⟨rfl, hJD, hkp⟩) (by decide) (by decide) dX4_isWon_150 rfl
        · skip
          have q0 : g = 0 := (nI_eq (b := 0) (by omega) (by decide)).mp c_100
          refine lv_aload_n hx hb dX4_isWon_103 rfl (lv_at hl 0 rfl) ?_
          refine m_get (ci := 4) (C := RX4) (T := TX4) (N := 9) (v := .ref J) hx hb hts in_X4 hown hK hM hP rfl 0 (by decide) fl_30 (fun _ h => h) rfl dX4_isWon_104 ?_
          refine m_getN (ci := 2) (C := RX2) (T := TX2) (N := 5) (v := .ref SG) hx hb hts in_X2 hown hK hM hj rfl 2 (by decide) fl_105 (fun _ h => h) rfl dX4_isWon_107 ?_
          refine lv_aload_n hx hb dX4_isWon_110 rfl (lv_at hl 0 rfl) ?_
          refine m_get (ci := 4) (C := RX4) (T := TX4) (N := 9) (v := .ref PH) hx hb hts in_X4 hown hK hM hP rfl 1 (by decide) fl_11 (fun _ h => h) rfl dX4_isWon_111 ?_
          refine lv_iconst (v := 0) hx hb dX4_isWon_114 (by decide) ?_
          refine m_laldN (k := 0) hx hb hK hM hPH (rfl) (by decide) (by decide) dX4_isWon_115 ?_
          refine tpl (x' := lN (hv 0)) (hfh 0 (by decide)) ?_
          refine lv_aload_n hx hb dX4_isWon_116 rfl (lv_at hl 0 rfl) ?_
          refine m_get (ci := 4) (C := RX4) (T := TX4) (N := 9) (v := .ref PH) hx hb hts in_X4 hown hK hM hP rfl 1 (by decide) fl_11 (fun _ h => h) rfl dX4_isWon_117 ?_
          refine lv_iconst (v := 1) hx hb dX4_isWon_120 (by decide) ?_
          refine m_laldN (k := 1) hx hb hK hM hPH (rfl) (by decide) (by decide) dX4_isWon_121 ?_
          refine tpl (x' := lN (hv 1)) (hfh 1 (by decide)) ?_
          refine cpV (As := [.long (lN (hv 0)), .long (lN (hv 1))]) (rest := []) (k_X5_isWon l D cA _ SG GO (hv 0) (hv 1) hsg hG0 hh0 hh1) ⟨hx, hb, hml, hown, hts⟩ (cwV 2 hts gX4_isWon_X5_isWon rfl rfl rfl (by decide +kernel) ⟨by decide, by decide⟩) hK hM hsg rfl rfl hl.1 rfl (Nat.le_of_ble_eq_true rfl) dX4_isWon_122 ⟨by decide, by decide⟩ ?_
          refine lv_goto (tgt := 150) hx hb dX4_isWon_125 (by decide) ?_
          exact hretz _ _ _ _ _ _ _ _ (wnF g mi t hv (bdV g t mv (hv 0) lm)) hh (by unfold wnF; rw [if_neg q2, if_neg q3, qm]; simp only [Bool.false_eq_true, if_false, q0, if_true]) (⟨rfl, hJD, hkp⟩) (by decide) (by decide) dX4_isWon_150 rfl
      · skip
        have q3 : g = 3 := (nI_eq (b := 3) (by omega) (by decide)).mp c_45
        have hgc : g = 0 ∨ g = 1 ∨ g = 3 := by omega
        have hsm2b : g ≤ 1 → hv 0 ≤ 60 ∧ hv 1 ≤ 60 := fun z => absurd z (by omega)
        refine lv_aload_n hx hb dX4_isWon_48 rfl (lv_at hl 0 rfl) ?_
        refine m_get (ci := 4) (C := RX4) (T := TX4) (N := 9) (v := .ref J) hx hb hts in_X4 hown hK hM hP rfl 0 (by decide) fl_30 (fun _ h => h) rfl dX4_isWon_49 ?_
        refine lv_aload_n hx hb dX4_isWon_52 rfl (lv_at hl 0 rfl) ?_
        refine m_get (ci := 4) (C := RX4) (T := TX4) (N := 9) (v := .int (nI g)) hx hb hts in_X4 hown hK hM hP rfl 5 (by decide) fl_26 (fun _ h => h) rfl dX4_isWon_53 ?_
        refine lv_aload_n hx hb dX4_isWon_56 rfl (lv_at hl 0 rfl) ?_
        refine m_get (ci := 4) (C := RX4) (T := TX4) (N := 9) (v := .int (bI mi)) hx hb hts in_X4 hown hK hM hP rfl 6 (by decide) fl_34 (fun _ h => h) rfl dX4_isWon_57 ?_
        refine cmV (As := [.int (nI g), .int (bI mi)]) (rest := []) (k_X2_tableOfG l D cA _ g J TG GO SG BG TM mi hgc hj hX0) ⟨hx, hb, hml, hown, hts⟩ (cwV 2 hts gX4_isWon_X2_tableOf rfl rfl rfl (by decide +kernel) ⟨by decide, by decide⟩) hK hh hj rfl rfl hl.1 rfl (Nat.le_of_ble_eq_true rfl) dX4_isWon_60 ⟨by decide, by decide⟩ (fun v9 M1 H1 locs1 hpost hh hz9 hk9 hn9 => ?_)
        obtain ⟨⟨sa, rfl, htab⟩, hX1, hkc⟩ := hpost
        have hW1 := hW0.kT hX0 hkc
        have hJ1 : judW cA M1 J TG GO SG BG TM := hJD.1.kp (kpI.of1 hkc hTM (fun z => z))
        have hT1 := (kpI.of1 hkc hTM (fun z => z)) _ _ hT ⟨by decide, by decide⟩
        obtain ⟨o3, la, hsa1⟩ := htab.obj
        have hsa : M1 sa = some (.inr (3, [.int o3, .ref la])) := hsa1
        have hP : M1 P = some (.inr (4, [.ref J, .ref PH, .ref WM, .ref MT, .ref WF, .int (nI g), .int (bI mi), .int (nI t), .int (nI mv)])) := hkc _ _ hP (ni1 (mp_ne hP hTM (by simp)))
        have hPH : M1 PH = some (.inl (cA 0, 3, .inr (.inl fh))) := hkc _ _ hPH (ni1 (mp_ne hPH hTM (by simp)))
        have hkp := hkp.call hkc (by simp)
        have hM := hh.1
        refine W.widen (k := 3) (n := 123) (by decide) (by decide) ?_
        refine W.eq (g2 := F0 m 63 ls [.ref sa]) rfl ?_
        refine lv_aload_n hx hb dX4_isWon_63 rfl (lv_at hl 0 rfl) ?_
        refine m_get (ci := 4) (C := RX4) (T := TX4) (N := 9) (v := .ref PH) hx hb hts in_X4 hown hK hM hP rfl 1 (by decide) fl_11 (fun _ h => h) rfl dX4_isWon_64 ?_
        refine lv_iconst (v := 0) hx hb dX4_isWon_67 (by decide) ?_
        refine m_laldN (k := 0) hx hb hK hM hPH (rfl) (by decide) (by decide) dX4_isWon_68 ?_
        refine tpl (x' := lN (hv 0)) (hfh 0 (by decide)) ?_
        refine lv_l2i hx hb dX4_isWon_69 rfl ?_
        refine tpi (x' := nI (hv 0)) (lN_i _) ?_
        refine lv_aload_n hx hb dX4_isWon_70 rfl (lv_at hl 0 rfl) ?_
        refine m_get (ci := 4) (C := RX4) (T := TX4) (N := 9) (v := .ref PH) hx hb hts in_X4 hown hK hM hP rfl 1 (by decide) fl_11 (fun _ h => h) rfl dX4_isWon_71 ?_
        refine lv_iconst (v := 1) hx hb dX4_isWon_74 (by decide) ?_
        refine m_laldN (k := 1) hx hb hK hM hPH (rfl) (by decide) (by decide) dX4_isWon_75 ?_
        refine tpl (x' := lN (hv 1)) (hfh 1 (by decide)) ?_
        refine lv_l2i hx hb dX4_isWon_76 rfl ?_
        refine tpi (x' := nI (hv 1)) (lN_i _) ?_
        refine lv_aload_n hx hb dX4_isWon_77 rfl (lv_at hl 0 rfl) ?_
        refine m_get (ci := 4) (C := RX4) (T := TX4) (N := 9) (v := .ref PH) hx hb hts in_X4 hown hK hM hP rfl 1 (by decide) fl_11 (fun _ h => h) rfl dX4_isWon_78 ?_
        refine lv_iconst (v := 2) hx hb dX4_isWon_81 (by decide) ?_
        refine m_laldN (k := 2) hx hb hK hM hPH (rfl) (by decide) (by decide) dX4_isWon_82 ?_
        refine tpl (x' := lN (hv 2)) (hfh 2 (by decide)) ?_
        refine lv_l2i hx hb dX4_isWon_83 rfl ?_
        refine tpi (x' := nI (hv 2)) (lN_i _) ?_
        refine cpV (As := [.int (nI (hv 0)), .int (nI (hv 1)), .int (nI (hv 2))]) (rest := []) (k_X3_hasG l D cA _ g mi sa (hv 0) (hv 1) (hv 2) hgc htab hsm2b hsm3) ⟨hx, hb, hml, hown, hts⟩ (cwV 3 hts gX4_isWon_X3_has rfl rfl rfl (by decide +kernel) ⟨by decide, by decide⟩) hK hM hsa rfl rfl hl.1 rfl (Nat.le_of_ble_eq_true rfl) dX4_isWon_84 ⟨by decide, by decide⟩ ?_
        refine bz_ne (tgt := 94) hx hb dX4_isWon_87 (by decide) (fun c_87 n_87 => ?_) (fun c_87 n_87 => ?_)
        · skip
          have hb9 := bI_ne0 c_87
          refine lv_iconst (v := 0) hx hb dX4_isWon_94 (by decide) ?_
          exact hretz _ _ _ _ _ _ _ _ (wnF g mi t hv (bdV g t mv (hv 0) lm)) hh (by unfold wnF; rw [if_neg q2]; unfold lsG at hb9; rw [if_pos q3] at hb9 ⊢; rw [hb9]; rfl) (⟨rfl, ⟨hJ1, hT1, hW1, hX1⟩, hkp⟩) (by decide) (by decide) dX4_isWon_95 rfl
        · skip
          have hb9 := bI_eq0 c_87
          refine lv_iconst (v := 1) hx hb dX4_isWon_90 (by decide) ?_
          refine lv_goto (tgt := 95) hx hb dX4_isWon_91 (by decide) ?_
          exact hretz _ _ _ _ _ _ _ _ (wnF g mi t hv (bdV g t mv (hv 0) lm)) hh (by unfold wnF; rw [if_neg q2]; unfold lsG at hb9; rw [if_pos q3] at hb9 ⊢; rw [hb9]; rfl) (⟨rfl, ⟨hJ1, hT1, hW1, hX1⟩, hkp⟩) (by decide) (by decide) dX4_isWon_95 rfl
  · skip
    have q2 : g = 2 := (nI_eq (b := 2) (by omega) (by decide)).mp c_5
    refine lv_aload_n hx hb dX4_isWon_8 rfl (lv_at hl 0 rfl) ?_
    refine m_get (ci := 4) (C := RX4) (T := TX4) (N := 9) (v := .ref J) hx hb hts in_X4 hown hK hM hP rfl 0 (by decide) fl_30 (fun _ h => h) rfl dX4_isWon_9 ?_
    refine m_getN (ci := 2) (C := RX2) (T := TX2) (N := 5) (v := .ref TG) hx hb hts in_X2 hown hK hM hj rfl 0 (by decide) fl_84 (fun _ h => h) rfl dX4_isWon_12 ?_
    refine lv_aload_n hx hb dX4_isWon_15 rfl (lv_at hl 0 rfl) ?_
    refine m_get (ci := 4) (C := RX4) (T := TX4) (N := 9) (v := .int (nI t)) hx hb hts in_X4 hown hK hM hP rfl 7 (by decide) fl_38 (fun _ h => h) rfl dX4_isWon_16 ?_
    refine lv_aload_n hx hb dX4_isWon_19 rfl (lv_at hl 0 rfl) ?_
    refine m_get (ci := 4) (C := RX4) (T := TX4) (N := 9) (v := .ref PH) hx hb hts in_X4 hown hK hM hP rfl 1 (by decide) fl_11 (fun _ h => h) rfl dX4_isWon_20 ?_
    refine lv_iconst (v := 0) hx hb dX4_isWon_23 (by decide) ?_
    refine m_laldN (k := 0) hx hb hK hM hPH (rfl) (by decide) (by decide) dX4_isWon_24 ?_
    refine tpl (x' := lN (hv 0)) (hfh 0 (by decide)) ?_
    refine lv_aload_n hx hb dX4_isWon_25 rfl (lv_at hl 0 rfl) ?_
    refine cpV (As := []) (rest := [.long (lN (hv 0)), .int (nI t), .ref TG]) (k_X4_bound l D cA _ P J PH WM MT WF g t mv mi fh fm hv lm hP hg3 hPH hMT hfh hfm hhv ht9 hlm hmv) ⟨hx, hb, hml, hown, hts⟩ (cwV 0 hts gX4_isWon_X4_bound rfl rfl rfl (by decide +kernel) ⟨by decide, by decide⟩) hK hM hP rfl rfl hl.1 rfl (Nat.le_of_ble_eq_true rfl) dX4_isWon_26 ⟨by decide, by decide⟩ ?_
    refine cmV (As := [.int (nI t), .long (lN (hv 0)), .long (lN (bdV g t mv (hv 0) lm))]) (rest := []) (k_X7_isWon l D cA _ TG SM t (hv 0) (bdV g t mv (hv 0) lm) hT hW0 (hg2t q2).1 ht9 hh0 hbl) ⟨hx, hb, hml, hown, hts⟩ (cwV 3 hts gX4_isWon_X7_isWon rfl rfl rfl (by decide +kernel) ⟨by decide, by decide⟩) hK hh hT rfl rfl hl.1 rfl (Nat.le_of_ble_eq_true rfl) dX4_isWon_29 ⟨by decide, by decide⟩ (fun v9 M1 H1 locs1 hpost hh hz9 hk9 hn9 => ?_)
    obtain ⟨rfl, hW1, hkc⟩ := hpost
    have hX1 := hX0.kS hW0 hkc
    have hJ1 : judW cA M1 J TG GO SG BG TM := hJD.1.kp (kpI.of1 hkc hSM (fun z => z))
    have hT1 := (kpI.of1 hkc hSM (fun z => z)) _ _ hT ⟨by decide, by decide⟩
    have hkp := hkp.call hkc (by simp)
    have hM := hh.1
    refine W.widen (k := 3) (n := 242) (by decide) (by decide) ?_
    refine W.eq (g2 := F0 m 32 ls [.int (bI (tiF t (hv 0) (bdV g t mv (hv 0) lm)))]) rfl ?_
    exact hretz _ _ _ _ _ _ _ _ (wnF g mi t hv (bdV g t mv (hv 0) lm)) hh (by unfold wnF; rw [if_pos q2]) (⟨rfl, ⟨hJ1, hT1, hW1, hX1⟩, hkp⟩) (by decide) (by decide) dX4_isWon_32 rfl
