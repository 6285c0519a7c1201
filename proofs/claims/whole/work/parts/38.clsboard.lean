set_option maxHeartbeats 1000000 in
set_option maxRecDepth 100000 in
theorem k_X8_board (l : Launch) (D : va_G) (cA : Nat → ClassId) (M : mp) (x : Nat) (P J PH WM MT WF g t mv : Nat) (mi : Bool) (hv wh ma : Nat → Nat) (fa : Nat → Bool) (TG GO SG BG TM SM : Nat) (g0 : Int32) (m2 : Bool) (a b c0 : Int64)  (hx0 : M x = some (.inr (8, [.ref J, .ref P]))) (hpw : pw cA M P J PH WM MT WF g t mv mi hv wh ma fa) (hJD : jdW cA M J TG GO SG BG TM SM)  : MC l D cA yX8_board wsX8_board 3 75 0 0 [.ref x, .int g0, .int (bI m2), .long a, .long b, .long c0] M (fun r M' => (ahF g0 m2 a b c0 = true ∧ r = some (.int 1) ∧ pw cA M' P J PH WM MT WF (nB g0) (if nB g0 = 2 then nL b else 0) 0 m2 (hv0 (nB g0) (nL a) (nL b) (nL c0)) wh ma fa ∧ jdW cA M' J TG GO SG BG TM SM ∧ kpL M M' [P, PH]) ∨ (ahF g0 m2 a b c0 = false ∧ r = some (.int (-2)) ∧ M' = M)) := by
  refine MC.of (cc := cX8_board) (maxL := 9) (ret := (some .int)) (by decide) rfl (Nat.le_of_ble_eq_true rfl) ?_
  intro p e s m args below meth c Q ls B hh hl hretv hreti hretz hretl hreta
  obtain ⟨hx, hb, hown, hts, hml, hK, hin⟩ := B
  have hM := hh.1
  have hM_0 := hh.1
  have hkp : kpL M M [P, PH] := kpL.rf M _
  have hown : s.vm.findClass RX8 = some m.cls := hown
  have hl : lv_has ls 9 [(0, .ref x), (1, .int g0), (2, .int (bI m2)), (3, .long a), (5, .long b), (7, .long c0)] := hl
  have in_X8 : ∀ w ∈ wsX80, w ∈ wsX8_board := by decide +kernel
  have fl_21 := hts (.fieldLink RX8 21 "GoldHeaps" "play" "LGoldHeaps$Play;") (by decide +kernel)
  obtain ⟨fh, fw, fm, fz, hP, hPH, hWM, hMT, hWF, hne, hfh, hfw, hfm, hfz⟩ := id hpw
  refine lv_iload_n hx hb dX8_board_0 rfl (lv_at hl 1 rfl) ?_
  refine lv_iload_n hx hb dX8_board_1 rfl (lv_at hl 2 rfl) ?_
  refine lv_lload_n hx hb dX8_board_2 rfl (lv_at hl 3 rfl) ?_
  refine lv_lload hx hb dX8_board_3 (lv_at hl 4 rfl) ?_
  refine lv_lload hx hb dX8_board_5 (lv_at hl 5 rfl) ?_
  refine cpS (As := [.int g0, .int (bI m2), .long a, .long b, .long c0]) (rest := []) (k_X8_areHeapsOf l D cA _ g0 (m2) (a) (b) (c0)) ⟨hx, hb, hml, hown, hts⟩ (va_cwS 5 hts gX8_board_X8_areHeapsOf rfl rfl rfl (by decide +kernel) ⟨by decide, by decide⟩) hK hM rfl hl.1 rfl (Nat.le_of_ble_eq_true rfl) dX8_board_7 ⟨by decide, by decide⟩ ?_
  refine bz_ne (tgt := 16) hx hb dX8_board_10 (by decide) (fun c_10 n_10 => ?_) (fun c_10 n_10 => ?_)
  · skip
    have h1 := bI_ne0 c_10
    obtain ⟨ea, eb, hc3, hok⟩ := ah_ok h1
    have eg := (ah_case h1).1.1
    refine lv_aload_n hx hb dX8_board_16 rfl (lv_at hl 0 rfl) ?_
    refine m_get (ci := 8) (C := RX8) (T := TX8) (N := 2) (v := .ref P) hx hb hts in_X8 hown hK hM hx0 rfl 1 (by decide) fl_21 (fun _ h => h) rfl dX8_board_17 ?_
    refine lv_iload_n hx hb dX8_board_20 rfl (lv_at hl 1 rfl) ?_
    refine lv_iload_n hx hb dX8_board_21 rfl (lv_at hl 2 rfl) ?_
    refine lv_lload_n hx hb dX8_board_22 rfl (lv_at hl 3 rfl) ?_
    refine lv_lload hx hb dX8_board_23 (lv_at hl 4 rfl) ?_
    refine lv_lload hx hb dX8_board_25 (lv_at hl 5 rfl) ?_
    refine cmV (As := [.int g0, .int (bI m2), .long a, .long b, .long c0]) (rest := []) (by have h9 := k_X4_begin l D cA M P J PH WM MT WF g t mv mi hv wh ma fa TG GO SG BG TM SM (nB g0) m2 (nL a) (nL b) (nL c0) c0 hpw hJD hok.1 hc3; rw [← eg, ← ea, ← eb] at h9; exact h9) ⟨hx, hb, hml, hown, hts⟩ (cwV 5 hts gX8_board_X4_begin rfl rfl rfl (by decide +kernel) ⟨by decide, by decide⟩) hK hh hP rfl rfl hl.1 rfl (Nat.le_of_ble_eq_true rfl) dX8_board_27 ⟨by decide, by decide⟩ (fun v9 M1 H1 locs1 hpost hh hz9 hk9 hn9 => ?_)
    obtain ⟨rfl, hpw1, hJD1, hkc⟩ := hpost
    have hkp := hkp.call hkc (by simp)
    have hM := hh.1
    refine W.eq (g2 := F0 m 30 ls []) rfl ?_
    refine lv_iconst (v := 1) hx hb dX8_board_30 (by decide) ?_
    exact hreti _ _ _ _ _ _ _ _ hh (Or.inl ⟨h1, rfl, hpw1, hJD1, hkp⟩) (by decide) (by decide) dX8_board_31 rfl
  · skip
    have h1 := bI_eq0 c_10
    refine lv_bipush (v := (-2)) hx hb dX8_board_13 (by decide) ?_
    exact hreti _ _ _ _ _ _ _ _ hh (Or.inr ⟨h1, rfl, rfl⟩) (by decide) (by decide) dX8_board_15 rfl
set_option maxHeartbeats 1000000 in
set_option maxRecDepth 100000 in
theorem k_X8_move (l : Launch) (D : va_G) (cA : Nat → ClassId) (M : mp) (x : Nat) (P J PH WM MT WF g t mv : Nat) (mi : Bool) (hv wh ma : Nat → Nat) (fa : Nat → Bool) (TG GO SG BG TM SM : Nat) (w : Int32) (y : Int64)  (hx0 : M x = some (.inr (8, [.ref J, .ref P]))) (hpw : pw cA M P J PH WM MT WF g t mv mi hv wh ma fa) (hJD : jdW cA M J TG GO SG BG TM SM) (hok : okB g t mi hv) (hmv : mv ≤ 200) (hlm : ma (mv - 1) ≤ 1000000000000)  : MC l D cA yX8_move wsX8_move 7 164 6 484 [.ref x, .int w, .long y] M (fun r M' => (inW w.toInt64 0 (lN (wyF g - 1)) = false ∧ r = some (.int (-2)) ∧ M' = M) ∨ (inW w.toInt64 0 (lN (wyF g - 1)) = true ∧ mtF g mv hv (bdV g t mv (hv 0) (ma (mv - 1))) (nB w) y = false ∧ r = some (.int (-3)) ∧ M' = M) ∨ (inW w.toInt64 0 (lN (wyF g - 1)) = true ∧ mtF g mv hv (bdV g t mv (hv 0) (ma (mv - 1))) (nB w) y = true ∧ r = some (.int (if ovF g (hvT g (nB w) (nL y) hv) (bdV g t (mv + 1) ((hvT g (nB w) (nL y) hv) 0) (nL y)) then 2 else 1)) ∧ pw cA M' P J PH WM MT WF g t (mv + 1) mi (hvT g (nB w) (nL y) hv) (va_up wh mv (nB w)) (va_up ma mv (nL y)) (va_up fa mv (wnF g mi t hv (bdV g t mv (hv 0) (ma (mv - 1))) && wnF g mi t (hvT g (nB w) (nL y) hv) (bdV g t (mv + 1) ((hvT g (nB w) (nL y) hv) 0) (nL y)))) ∧ jdW cA M' J TG GO SG BG TM SM ∧ kpL M M' [P, PH, WM, MT, WF, SM, TM])) := by
  refine MC.of (cc := cX8_move) (maxL := 4) (ret := (some .int)) (by decide) rfl (Nat.le_of_ble_eq_true rfl) ?_
  intro p e s m args below meth c Q ls B hh hl hretv hreti hretz hretl hreta
  obtain ⟨hx, hb, hown, hts, hml, hK, hin⟩ := B
  have hM := hh.1
  have hM_0 := hh.1
  have hkp : kpL M M [P, PH, WM, MT, WF, SM, TM] := kpL.rf M _
  have hown : s.vm.findClass RX8 = some m.cls := hown
  have hl : lv_has ls 4 [(0, .ref x), (1, .int w), (2, .long y)] := hl
  have in_X8 : ∀ w ∈ wsX80, w ∈ wsX8_move := by decide +kernel
  have fl_21 := hts (.fieldLink RX8 21 "GoldHeaps" "play" "LGoldHeaps$Play;") (by decide +kernel)
  obtain ⟨fh, fw, fm, fz, hP, hPH, hWM, hMT, hWF, hne, hfh, hfw, hfm, hfz⟩ := id hpw
  have hxn : x ∉ [P, PH, WM, MT, WF, SM, TM] := by
    obtain ⟨fs0, hSM, -⟩ := id hJD.2.2.1
    obtain ⟨ft0, hTM, -⟩ := id hJD.2.2.2
    have e1 := mp_ne hx0 hP (by simp)
    have e2 := mp_ne hx0 hPH (by simp)
    have e3 := mp_ne hx0 hWM (by simp)
    have e4 := mp_ne hx0 hMT (by simp)
    have e5 := mp_ne hx0 hWF (by simp)
    have e6 := mp_ne hx0 hSM (by simp)
    have e7 := mp_ne hx0 hTM (by simp)
    simp [e1, e2, e3, e4, e5, e6, e7]
  have hwy := wy_le g
  have hg3 := hok.1
  refine lv_iload_n hx hb dX8_move_0 rfl (lv_at hl 1 rfl) ?_
  refine lv_i2l hx hb dX8_move_1 rfl ?_
  refine lv_lconst (v := 0) hx hb dX8_move_2 (by decide) ?_
  refine lv_aload_n hx hb dX8_move_3 rfl (lv_at hl 0 rfl) ?_
  refine m_get (ci := 8) (C := RX8) (T := TX8) (N := 2) (v := .ref P) hx hb hts in_X8 hown hK hM hx0 rfl 1 (by decide) fl_21 (fun _ h => h) rfl dX8_move_4 ?_
  refine cpV (As := []) (rest := [.long 0, .long ((w).toInt64)]) (k_X4_ways l D cA _ P J PH WM MT WF g t mv mi hP hg3) ⟨hx, hb, hml, hown, hts⟩ (cwV 0 hts gX8_move_X4_ways rfl rfl rfl (by decide +kernel) ⟨by decide, by decide⟩) hK hM hP rfl rfl hl.1 rfl (Nat.le_of_ble_eq_true rfl) dX8_move_7 ⟨by decide, by decide⟩ ?_
  refine lv_iconst (v := 1) hx hb dX8_move_10 (by decide) ?_
  refine lv_isub hx hb dX8_move_11 ?_
  refine tpi (x' := nI (wyF g - 1)) (by rw [show (1 : Int32) = nI 1 from rfl]; exact nI_sub (by omega)) ?_
  refine lv_i2l hx hb dX8_move_12 rfl ?_
  refine tpl (x' := (lN (wyF g - 1))) (nI_l (by omega)) ?_
  refine cpS (As := [.long ((w).toInt64), .long 0, .long ((lN (wyF g - 1)))]) (rest := []) (k_X8_isWithin l D cA _ (w.toInt64) 0 (lN (wyF g - 1))) ⟨hx, hb, hml, hown, hts⟩ (va_cwS 3 hts gX8_move_X8_isWithin rfl rfl rfl (by decide +kernel) ⟨by decide, by decide⟩) hK hM rfl hl.1 rfl (Nat.le_of_ble_eq_true rfl) dX8_move_13 ⟨by decide, by decide⟩ ?_
  refine bz_ne (tgt := 22) hx hb dX8_move_16 (by decide) (fun c_16 n_16 => ?_) (fun c_16 n_16 => ?_)
  · skip
    have h1 := bI_ne0 c_16
    obtain ⟨ew, -, hwl0⟩ := in_i32 (a := 0) (b := wyF g - 1) (by omega) h1 (by omega)
    have hwl : nB w < wyF g := by omega
    refine lv_aload_n hx hb dX8_move_22 rfl (lv_at hl 0 rfl) ?_
    refine m_get (ci := 8) (C := RX8) (T := TX8) (N := 2) (v := .ref P) hx hb hts in_X8 hown hK hM hx0 rfl 1 (by decide) fl_21 (fun _ h => h) rfl dX8_move_23 ?_
    refine lv_iload_n hx hb dX8_move_26 rfl (lv_at hl 1 rfl) ?_
    refine lv_lload_n hx hb dX8_move_27 rfl (lv_at hl 2 rfl) ?_
    refine cpV (As := [.int w, .long y]) (rest := []) (by have h9 := k_X4_mayTake l D cA M P J PH WM MT WF g t mv mi fh fm hv (ma (mv - 1)) (nB w) y hP hg3 hPH hMT hfh (fun h => hfm (mv - 1) (by omega)) hok.2.1 hok.2.2.1 hlm hmv hwl; rw [← ew] at h9; exact h9) ⟨hx, hb, hml, hown, hts⟩ (cwV 2 hts gX8_move_X4_mayTake rfl rfl rfl (by decide +kernel) ⟨by decide, by decide⟩) hK hM hP rfl rfl hl.1 rfl (Nat.le_of_ble_eq_true rfl) dX8_move_28 ⟨by decide, by decide⟩ ?_
    refine bz_ne (tgt := 37) hx hb dX8_move_31 (by decide) (fun c_31 n_31 => ?_) (fun c_31 n_31 => ?_)
    · skip
      have h2 := bI_ne0 c_31
      have hmt : 1 ≤ y ∧ mtP g mv hv (bdV g t mv (hv 0) (ma (mv - 1))) (nB w) (nL y) := by unfold mtF at h2; rw [Bool.and_eq_true] at h2; exact ⟨of_decide_eq_true h2.1, of_decide_eq_true h2.2⟩
      obtain ⟨ey, hy1, hy2⟩ := ge1_nL hmt.1
      have hy3 := mt_le hwl hok.1 hmt.2 hok.2.1
      refine lv_aload_n hx hb dX8_move_37 rfl (lv_at hl 0 rfl) ?_
      refine m_get (ci := 8) (C := RX8) (T := TX8) (N := 2) (v := .ref P) hx hb hts in_X8 hown hK hM hx0 rfl 1 (by decide) fl_21 (fun _ h => h) rfl dX8_move_38 ?_
      refine lv_iload_n hx hb dX8_move_41 rfl (lv_at hl 1 rfl) ?_
      refine lv_lload_n hx hb dX8_move_42 rfl (lv_at hl 2 rfl) ?_
      refine cmV (As := [.int w, .long y]) (rest := []) (by have h9 := k_X4_take l D cA M P J PH WM MT WF g t mv mi hv wh ma fa TG GO SG BG TM SM (nB w) (nL y) hpw hJD hok hmt.2.1 (by omega) hy3 hmt.2.2.1 hlm; rw [← ew, ← ey] at h9; exact h9) ⟨hx, hb, hml, hown, hts⟩ (cwV 2 hts gX8_move_X4_take rfl rfl rfl (by decide +kernel) ⟨by decide, by decide⟩) hK hh hP rfl rfl hl.1 rfl (Nat.le_of_ble_eq_true rfl) dX8_move_43 ⟨by decide, by decide⟩ (fun v9 M1 H1 locs1 hpost hh hz9 hk9 hn9 => ?_)
      obtain ⟨rfl, hpw1, hJD1, hkc⟩ := hpost
      obtain ⟨fh, fw, fm, fz, hP1, hPH, hWM, hMT, hWF, hne1, hfh, hfw, hfm, hfz⟩ := id hpw1
      have hx0 : M1 x = some (.inr (8, [.ref J, .ref P])) := hkc _ _ hx0 hxn
      have hP : M1 P = some (.inr (4, [.ref J, .ref PH, .ref WM, .ref MT, .ref WF, .int (nI g), .int (bI mi), .int (nI t), .int (nI (mv + 1))])) := hP1
      have hkp := hkp.call hkc (by simp)
      have hM := hh.1
      refine W.widen (k := 6) (n := 484) (by decide) (by decide) ?_
      refine W.eq (g2 := F0 m 46 ls []) rfl ?_
      refine lv_aload_n hx hb dX8_move_46 rfl (lv_at hl 0 rfl) ?_
      refine m_get (ci := 8) (C := RX8) (T := TX8) (N := 2) (v := .ref P) hx hb hts in_X8 hown hK hM hx0 rfl 1 (by decide) fl_21 (fun _ h => h) rfl dX8_move_47 ?_
      refine cpV (As := []) (rest := []) (k_X4_isOver l D cA _ P J PH WM MT WF g t (mv + 1) mi fh fm (hvT g (nB w) (nL y) hv) (nL y) hP hg3 hPH hMT hfh (fun _ => by rw [hfm (mv + 1 - 1) (by omega), show mv + 1 - 1 = mv by omega, va_up_self]) (hvT_okB hok).2.1 hok.2.2.1 hy3 (by omega)) ⟨hx, hb, hml, hown, hts⟩ (cwV 0 hts gX8_move_X4_isOver rfl rfl rfl (by decide +kernel) ⟨by decide, by decide⟩) hK hM hP rfl rfl hl.1 rfl (Nat.le_of_ble_eq_true rfl) dX8_move_50 ⟨by decide, by decide⟩ ?_
      refine bz_eq (tgt := 60) hx hb dX8_move_53 (by decide) (fun c_53 n_53 => ?_) (fun c_53 n_53 => ?_)
      · skip
        have h5 := bI_eq0 c_53
        refine lv_iconst (v := 1) hx hb dX8_move_60 (by decide) ?_
        exact hreti _ _ _ _ _ _ _ _ hh (Or.inr (Or.inr ⟨h1, h2, by rw [h5]; rfl, hpw1, hJD1, hkp⟩)) (by decide) (by decide) dX8_move_61 rfl
      · skip
        have h5 := bI_ne0 c_53
        refine lv_iconst (v := 2) hx hb dX8_move_56 (by decide) ?_
        refine lv_goto (tgt := 61) hx hb dX8_move_57 (by decide) ?_
        exact hreti _ _ _ _ _ _ _ _ hh (Or.inr (Or.inr ⟨h1, h2, by rw [h5]; rfl, hpw1, hJD1, hkp⟩)) (by decide) (by decide) dX8_move_61 rfl
    · skip
      have h2 := bI_eq0 c_31
      refine lv_bipush (v := (-3)) hx hb dX8_move_34 (by decide) ?_
      exact hreti _ _ _ _ _ _ _ _ hh (Or.inr (Or.inl ⟨h1, h2, rfl, rfl⟩)) (by decide) (by decide) dX8_move_36 rfl
  · skip
    have h1 := bI_eq0 c_16
    refine lv_bipush (v := (-2)) hx hb dX8_move_19 (by decide) ?_
    exact hreti _ _ _ _ _ _ _ _ hh (Or.inl ⟨h1, rfl, rfl⟩) (by decide) (by decide) dX8_move_21 rfl
set_option maxHeartbeats 1000000 in
set_option maxRecDepth 100000 in
theorem k_X8_undo (l : Launch) (D : va_G) (cA : Nat → ClassId) (M : mp) (x : Nat) (P J PH WM MT WF g t mv : Nat) (mi : Bool) (hv wh ma : Nat → Nat) (fa : Nat → Bool) (TG GO SG BG TM SM : Nat) (mq : Nat)  (hx0 : M x = some (.inr (8, [.ref J, .ref P]))) (hpw : pw cA M P J PH WM MT WF g t mv mi hv wh ma fa) (hJD : jdW cA M J TG GO SG BG TM SM) (hg3 : g ≤ 3) (hmv : mv = mq + 1) (hm2 : mv ≤ 200) (hwl : wh mq ≤ 3)  : MC l D cA yX8_undo wsX8_undo 4 95 0 0 [.ref x] M (fun r M' => r = some (.int (nI mq)) ∧ pw cA M' P J PH WM MT WF g t mq mi (hvB g (wh mq) (ma mq) hv) wh ma fa ∧ jdW cA M' J TG GO SG BG TM SM ∧ kpL M M' [P, PH]) := by
  refine MC.of (cc := cX8_undo) (maxL := 1) (ret := (some .int)) (by decide) rfl (Nat.le_of_ble_eq_true rfl) ?_
  intro p e s m args below meth c Q ls B hh hl hretv hreti hretz hretl hreta
  obtain ⟨hx, hb, hown, hts, hml, hK, hin⟩ := B
  have hM := hh.1
  have hM_0 := hh.1
  have hkp : kpL M M [P, PH] := kpL.rf M _
  have hown : s.vm.findClass RX8 = some m.cls := hown
  have hl : lv_has ls 1 [(0, .ref x)] := hl
  have in_X8 : ∀ w ∈ wsX80, w ∈ wsX8_undo := by decide +kernel
  have fl_21 := hts (.fieldLink RX8 21 "GoldHeaps" "play" "LGoldHeaps$Play;") (by decide +kernel)
  obtain ⟨fh, fw, fm, fz, hP, hPH, hWM, hMT, hWF, hne, hfh, hfw, hfm, hfz⟩ := id hpw
  refine lv_aload_n hx hb dX8_undo_0 rfl (lv_at hl 0 rfl) ?_
  refine m_get (ci := 8) (C := RX8) (T := TX8) (N := 2) (v := .ref P) hx hb hts in_X8 hown hK hM hx0 rfl 1 (by decide) fl_21 (fun _ h => h) rfl dX8_undo_1 ?_
  refine cmV (As := []) (rest := []) (k_X4_takeBack l D cA M P J PH WM MT WF g t mv mi hv wh ma fa TG GO SG BG TM SM mq hpw hJD hg3 hmv hm2 hwl) ⟨hx, hb, hml, hown, hts⟩ (cwV 0 hts gX8_undo_X4_takeBack rfl rfl rfl (by decide +kernel) ⟨by decide, by decide⟩) hK hh hP rfl rfl hl.1 rfl (Nat.le_of_ble_eq_true rfl) dX8_undo_4 ⟨by decide, by decide⟩ (fun v9 M1 H1 locs1 hpost hh hz9 hk9 hn9 => ?_)
  obtain ⟨rfl, hpw1, hJD1, hkc⟩ := hpost
  obtain ⟨fh1, fw1, fm1, fz1, hP1, -⟩ := id hpw1
  have hx0 : M1 x = some (.inr (8, [.ref J, .ref P])) := hkc _ _ hx0 (ni2 (mp_ne hx0 hP (by simp)) (mp_ne hx0 hPH (by simp)))
  have hP : M1 P = some (.inr (4, [.ref J, .ref PH, .ref WM, .ref MT, .ref WF, .int (nI g), .int (bI mi), .int (nI t), .int (nI mq)])) := hP1
  have hkp := hkp.call hkc (by simp)
  have hM := hh.1
  refine W.eq (g2 := F0 m 7 ls [.int 1]) rfl ?_
  refine bz_eq (tgt := 20) hx hb dX8_undo_7 (by decide) (fun c_7 n_7 => ?_) (fun c_7 n_7 => ?_)
  · exact absurd c_7 (by decide)
  · skip
    refine lv_aload_n hx hb dX8_undo_10 rfl (lv_at hl 0 rfl) ?_
    refine m_get (ci := 8) (C := RX8) (T := TX8) (N := 2) (v := .ref P) hx hb hts in_X8 hown hK hM hx0 rfl 1 (by decide) fl_21 (fun _ h => h) rfl dX8_undo_11 ?_
    refine cpV (As := []) (rest := []) (k_X4_movesMade l D cA _ P J PH WM MT WF g t mq mi hP hg3) ⟨hx, hb, hml, hown, hts⟩ (cwV 0 hts gX8_undo_X4_movesMade rfl rfl rfl (by decide +kernel) ⟨by decide, by decide⟩) hK hM hP rfl rfl hl.1 rfl (Nat.le_of_ble_eq_true rfl) dX8_undo_14 ⟨by decide, by decide⟩ ?_
    refine lv_goto (tgt := 22) hx hb dX8_undo_17 (by decide) ?_
    exact hreti _ _ _ _ _ _ _ _ hh (⟨rfl, hpw1, hJD1, hkp⟩) (by decide) (by decide) dX8_undo_22 rfl
set_option maxHeartbeats 1000000 in
set_option maxRecDepth 100000 in
theorem k_X8_undo0 (l : Launch) (D : va_G) (cA : Nat → ClassId) (M : mp) (x : Nat) (P J PH WM MT WF g t mv : Nat) (mi : Bool) (hv wh ma : Nat → Nat) (fa : Nat → Bool)  (hx0 : M x = some (.inr (8, [.ref J, .ref P]))) (hpw : pw cA M P J PH WM MT WF g t mv mi hv wh ma fa) (hmv : mv = 0)  : MC l D cA yX8_undo wsX8_undo 4 95 0 0 [.ref x] M (fun r M' => r = some (.int (-3)) ∧ kpL M M' []) := by
  refine MC.of (cc := cX8_undo) (maxL := 1) (ret := (some .int)) (by decide) rfl (Nat.le_of_ble_eq_true rfl) ?_
  intro p e s m args below meth c Q ls B hh hl hretv hreti hretz hretl hreta
  obtain ⟨hx, hb, hown, hts, hml, hK, hin⟩ := B
  have hM := hh.1
  have hM_0 := hh.1
  have hkp : kpL M M [] := kpL.rf M _
  have hown : s.vm.findClass RX8 = some m.cls := hown
  have hl : lv_has ls 1 [(0, .ref x)] := hl
  have in_X8 : ∀ w ∈ wsX80, w ∈ wsX8_undo := by decide +kernel
  have fl_21 := hts (.fieldLink RX8 21 "GoldHeaps" "play" "LGoldHeaps$Play;") (by decide +kernel)
  obtain ⟨fh, fw, fm, fz, hP, hPH, hWM, hMT, hWF, hne, hfh, hfw, hfm, hfz⟩ := id hpw
  refine lv_aload_n hx hb dX8_undo_0 rfl (lv_at hl 0 rfl) ?_
  refine m_get (ci := 8) (C := RX8) (T := TX8) (N := 2) (v := .ref P) hx hb hts in_X8 hown hK hM hx0 rfl 1 (by decide) fl_21 (fun _ h => h) rfl dX8_undo_1 ?_
  refine cmV (As := []) (rest := []) (k_X4_takeBack0 l D cA M P J PH WM MT WF g t mv mi hv wh ma fa hpw hmv) ⟨hx, hb, hml, hown, hts⟩ (cwV 0 hts gX8_undo_X4_takeBack rfl rfl rfl (by decide +kernel) ⟨by decide, by decide⟩) hK hh hP rfl rfl hl.1 rfl (Nat.le_of_ble_eq_true rfl) dX8_undo_4 ⟨by decide, by decide⟩ (fun v9 M1 H1 locs1 hpost hh hz9 hk9 hn9 => ?_)
  obtain ⟨rfl, hkc⟩ := hpost
  have hkp := hkp.call hkc (by simp)
  have hM := hh.1
  refine W.eq (g2 := F0 m 7 ls [.int 0]) rfl ?_
  refine bz_eq (tgt := 20) hx hb dX8_undo_7 (by decide) (fun c_7 n_7 => ?_) (fun c_7 n_7 => ?_)
  · skip
    refine lv_bipush (v := (-3)) hx hb dX8_undo_20 (by decide) ?_
    exact hreti _ _ _ _ _ _ _ _ hh (⟨rfl, hkp⟩) (by decide) (by decide) dX8_undo_22 rfl
  · exact absurd rfl c_7
set_option maxHeartbeats 1000000 in
set_option maxRecDepth 100000 in
theorem k_X8_about (l : Launch) (D : va_G) (cA : Nat → ClassId) (M : mp) (x : Nat) (P J PH WM MT WF g t mv : Nat) (mi : Bool) (hv wh ma : Nat → Nat) (fa : Nat → Bool) (TG GO SG BG TM SM : Nat) (w : Int32)  (hx0 : M x = some (.inr (8, [.ref J, .ref P]))) (hpw : pw cA M P J PH WM MT WF g t mv mi hv wh ma fa) (hJD : jdW cA M J TG GO SG BG TM SM) (hok : okB g t mi hv) (hmv : mv ≤ 200) (hlm : ma (mv - 1) ≤ 1000000000000)  : MC l D cA yX8_about wsX8_about 7 161 3 242 [.ref x, .int w] M (fun r M' => r = some (.long (tlV g mi t mv hv (bdV g t mv (hv 0) (ma (mv - 1))) (fcF fa mv) w)) ∧ jdW cA M' J TG GO SG BG TM SM ∧ kpL M M' [SM, TM]) := by
  refine MC.of (cc := cX8_about) (maxL := 2) (ret := (some .long)) (by decide) rfl (Nat.le_of_ble_eq_true rfl) ?_
  intro p e s m args below meth c Q ls B hh hl hretv hreti hretz hretl hreta
  obtain ⟨hx, hb, hown, hts, hml, hK, hin⟩ := B
  have hM := hh.1
  have hM_0 := hh.1
  have hkp : kpL M M [SM, TM] := kpL.rf M _
  have hown : s.vm.findClass RX8 = some m.cls := hown
  have hl : lv_has ls 2 [(0, .ref x), (1, .int w)] := hl
  have in_X8 : ∀ w ∈ wsX80, w ∈ wsX8_about := by decide +kernel
  have fl_21 := hts (.fieldLink RX8 21 "GoldHeaps" "play" "LGoldHeaps$Play;") (by decide +kernel)
  obtain ⟨fh, fw, fm, fz, hP, hPH, hWM, hMT, hWF, hne, hfh, hfw, hfm, hfz⟩ := id hpw
  refine lv_aload_n hx hb dX8_about_0 rfl (lv_at hl 0 rfl) ?_
  refine m_get (ci := 8) (C := RX8) (T := TX8) (N := 2) (v := .ref P) hx hb hts in_X8 hown hK hM hx0 rfl 1 (by decide) fl_21 (fun _ h => h) rfl dX8_about_1 ?_
  refine lv_iload_n hx hb dX8_about_4 rfl (lv_at hl 1 rfl) ?_
  refine cmV (As := [.int w]) (rest := []) (k_X4_tell l D cA M P J PH WM MT WF g t mv mi hv wh ma fa TG GO SG BG TM SM w hpw hJD hok hmv hlm) ⟨hx, hb, hml, hown, hts⟩ (cwV 1 hts gX8_about_X4_tell rfl rfl rfl (by decide +kernel) ⟨by decide, by decide⟩) hK hh hP rfl rfl hl.1 rfl (Nat.le_of_ble_eq_true rfl) dX8_about_5 ⟨by decide, by decide⟩ (fun v9 M1 H1 locs1 hpost hh hz9 hk9 hn9 => ?_)
  obtain ⟨rfl, hJD1, hkc⟩ := hpost
  have hkp := hkp.call hkc (by simp)
  have hM := hh.1
  refine W.widen (k := 3) (n := 242) (by decide) (by decide) ?_
  refine W.eq (g2 := F0 m 8 ls [.long (tlV g mi t mv hv (bdV g t mv (hv 0) (ma (mv - 1))) (fcF fa mv) w)]) rfl ?_
  exact hretl _ _ _ _ _ _ _ _ hh (⟨rfl, hJD1, hkp⟩) (by decide) (by decide) dX8_about_8 rfl
set_option maxHeartbeats 1000000 in
set_option maxRecDepth 100000 in
theorem k_X8_digest (l : Launch) (D : va_G) (cA : Nat → ClassId) (M : mp) (x : Nat) (P J PH WM MT WF g t mv : Nat) (mi : Bool) (hv wh ma : Nat → Nat) (fa : Nat → Bool) (TG GO SG BG TM SM : Nat)  (hx0 : M x = some (.inr (8, [.ref J, .ref P]))) (hpw : pw cA M P J PH WM MT WF g t mv mi hv wh ma fa) (hJD : jdW cA M J TG GO SG BG TM SM) (hok : okB g t mi hv) (hmv : mv ≤ 200) (hlm : ma (mv - 1) ≤ 1000000000000)  : MC l D cA yX8_digest wsX8_digest 7 161 27 2178 [.ref x] M (fun r M' => r = some (.long (dgF (tlV g mi t mv hv (bdV g t mv (hv 0) (ma (mv - 1))) (fcF fa mv)) 9)) ∧ jdW cA M' J TG GO SG BG TM SM ∧ kpL M M' [SM, TM]) := by
  refine MC.of (cc := cX8_digest) (maxL := 4) (ret := (some .long)) (by decide) rfl (Nat.le_of_ble_eq_true rfl) ?_
  intro p e s m args below meth c Q ls B hh hl hretv hreti hretz hretl hreta
  obtain ⟨hx, hb, hown, hts, hml, hK, hin⟩ := B
  have hM := hh.1
  have hM_0 := hh.1
  have hkp : kpL M M [SM, TM] := kpL.rf M _
  have hown : s.vm.findClass RX8 = some m.cls := hown
  have hl : lv_has ls 4 [(0, .ref x)] := hl
  have cst_176 := hts (.constantLong RX8 176 (227)) (by decide +kernel)
  have cst_178 := hts (.constantLong RX8 178 (31)) (by decide +kernel)
  have in_X8 : ∀ w ∈ wsX80, w ∈ wsX8_digest := by decide +kernel
  have fl_21 := hts (.fieldLink RX8 21 "GoldHeaps" "play" "LGoldHeaps$Play;") (by decide +kernel)
  obtain ⟨fh, fw, fm, fz, hP, hPH, hWM, hMT, hWF, hne, hfh, hfw, hfm, hfz⟩ := id hpw
  refine lv_ldc2 hx hb hown cst_176 dX8_digest_0 ?_
  refine tpl (x' := dgF (tlV g mi t mv hv (bdV g t mv (hv 0) (ma (mv - 1))) (fcF fa mv)) 0) (rfl) ?_
  refine lv_lstore_n (lv' := [(1, .long (dgF (tlV g mi t mv hv (bdV g t mv (hv 0) (ma (mv - 1))) (fcF fa mv)) 0)), (0, .ref x)]) hx hb dX8_digest_3 rfl hl (by decide) rfl (fun ls hl => ?_)
  refine lv_iconst (v := 0) hx hb dX8_digest_4 (by decide) ?_
  refine tpi (x' := nI 0) (rfl) ?_
  refine lv_istore_n (lv' := [(3, .int (nI 0)), (1, .long (dgF (tlV g mi t mv hv (bdV g t mv (hv 0) (ma (mv - 1))) (fcF fa mv)) 0)), (0, .ref x)]) hx hb dX8_digest_5 rfl hl (by decide) rfl (fun ls hl => ?_)
  refine lv_iload_n hx hb dX8_digest_6 rfl (lv_at hl 0 rfl) ?_
  refine lv_bipush (v := 9) hx hb dX8_digest_7 (by decide) ?_
  refine bi_ge (tgt := 33) hx hb dX8_digest_9 (by decide) (fun c_9 n_9 => ?_) (fun c_9 n_9 => ?_)
  · exact absurd c_9 (by decide)
  · skip
    refine lv_ldc2 hx hb hown cst_178 dX8_digest_12 ?_
    refine lv_lload_n hx hb dX8_digest_15 rfl (lv_at hl 1 rfl) ?_
    refine lv_lmul hx hb dX8_digest_16 ?_
    refine lv_aload_n hx hb dX8_digest_17 rfl (lv_at hl 2 rfl) ?_
    refine m_get (ci := 8) (C := RX8) (T := TX8) (N := 2) (v := .ref P) hx hb hts in_X8 hown hK hM hx0 rfl 1 (by decide) fl_21 (fun _ h => h) rfl dX8_digest_18 ?_
    refine lv_iload_n hx hb dX8_digest_21 rfl (lv_at hl 0 rfl) ?_
    refine cmV (As := [.int (nI 0)]) (rest := [.long ((31 * dgF (tlV g mi t mv hv (bdV g t mv (hv 0) (ma (mv - 1))) (fcF fa mv)) 0))]) (k_X4_tell l D cA _ P J PH WM MT WF g t mv mi hv wh ma fa TG GO SG BG TM SM (nI 0) hpw hJD hok hmv hlm) ⟨hx, hb, hml, hown, hts⟩ (cwV 1 hts gX8_digest_X4_tell rfl rfl rfl (by decide +kernel) ⟨by decide, by decide⟩) hK hh hP rfl rfl hl.1 rfl (Nat.le_of_ble_eq_true rfl) dX8_digest_22 ⟨by decide, by decide⟩ (fun v9 M1 H1 locs1 hpost hh hz9 hk9 hn9 => ?_)
    obtain ⟨rfl, hJD1, hkc⟩ := hpost
    obtain ⟨fs0, hSM, -⟩ := id hJD.2.2.1
    obtain ⟨ft0, hTM, -⟩ := id hJD.2.2.2
    have hpw := hpw.kp hSM hTM hkc
    have hJD := hJD1
    have hx0 : M1 x = some (.inr (8, [.ref J, .ref P])) := hkc _ _ hx0 (ni2 (mp_ne hx0 hSM (by simp)) (mp_ne hx0 hTM (by simp)))
    have hP : M1 P = some (.inr (4, [.ref J, .ref PH, .ref WM, .ref MT, .ref WF, .int (nI g), .int (bI mi), .int (nI t), .int (nI mv)])) := hkc _ _ hP (ni2 (mp_ne hP hSM (by simp)) (mp_ne hP hTM (by simp)))
    have hkp := hkp.call hkc (by simp)
    have hM := hh.1
    refine W.widen (k := 3) (n := 242) (by decide) (by decide) ?_
    refine W.eq (g2 := F0 m 25 ls [.long ((tlV g mi t mv hv (bdV g t mv (hv 0) (ma (mv - 1))) (fcF fa mv)) (nI 0)), .long ((31 * dgF (tlV g mi t mv hv (bdV g t mv (hv 0) (ma (mv - 1))) (fcF fa mv)) 0))]) rfl ?_
    refine lv_ladd hx hb dX8_digest_25 ?_
    refine tpl (x' := dgF (tlV g mi t mv hv (bdV g t mv (hv 0) (ma (mv - 1))) (fcF fa mv)) 1) (rfl) ?_
    refine lv_lstore_n (lv' := [(1, .long (dgF (tlV g mi t mv hv (bdV g t mv (hv 0) (ma (mv - 1))) (fcF fa mv)) 1)), (3, .int (nI 0)), (0, .ref x)]) hx hb dX8_digest_26 rfl hl (by decide) rfl (fun ls hl => ?_)
    refine lv_iinc (v := nI 1) (lv' := [(3, .int (nI 1)), (1, .long (dgF (tlV g mi t mv hv (bdV g t mv (hv 0) (ma (mv - 1))) (fcF fa mv)) 1)), (0, .ref x)]) hx hb dX8_digest_27 hl (k := 1) rfl (rfl) (by decide) rfl (fun ls hl => ?_)
    refine lv_goto (tgt := 6) hx hb dX8_digest_30 (by decide) ?_
    refine lv_iload_n hx hb dX8_digest_6 rfl (lv_at hl 0 rfl) ?_
    refine lv_bipush (v := 9) hx hb dX8_digest_7 (by decide) ?_
    refine bi_ge (tgt := 33) hx hb dX8_digest_9 (by decide) (fun c_9 n_9 => ?_) (fun c_9 n_9 => ?_)
    · exact absurd c_9 (by decide)
    · skip
      refine lv_ldc2 hx hb hown cst_178 dX8_digest_12 ?_
      refine lv_lload_n hx hb dX8_digest_15 rfl (lv_at hl 1 rfl) ?_
      refine lv_lmul hx hb dX8_digest_16 ?_
      refine lv_aload_n hx hb dX8_digest_17 rfl (lv_at hl 2 rfl) ?_
      refine m_get (ci := 8) (C := RX8) (T := TX8) (N := 2) (v := .ref P) hx hb hts in_X8 hown hK hM hx0 rfl 1 (by decide) fl_21 (fun _ h => h) rfl dX8_digest_18 ?_
      refine lv_iload_n hx hb dX8_digest_21 rfl (lv_at hl 0 rfl) ?_
      refine cmV (As := [.int (nI 1)]) (rest := [.long ((31 * dgF (tlV g mi t mv hv (bdV g t mv (hv 0) (ma (mv - 1))) (fcF fa mv)) 1))]) (k_X4_tell l D cA _ P J PH WM MT WF g t mv mi hv wh ma fa TG GO SG BG TM SM (nI 1) hpw hJD hok hmv hlm) ⟨hx, hb, hml, hown, hts⟩ (cwV 1 hts gX8_digest_X4_tell rfl rfl rfl (by decide +kernel) ⟨by decide, by decide⟩) hK hh hP rfl rfl hl.1 rfl (Nat.le_of_ble_eq_true rfl) dX8_digest_22 ⟨by decide, by decide⟩ (fun v9 M1 H1 locs1 hpost hh hz9 hk9 hn9 => ?_)
      obtain ⟨rfl, hJD1, hkc⟩ := hpost
      obtain ⟨fs0, hSM, -⟩ := id hJD.2.2.1
      obtain ⟨ft0, hTM, -⟩ := id hJD.2.2.2
      have hpw := hpw.kp hSM hTM hkc
      have hJD := hJD1
      have hx0 : M1 x = some (.inr (8, [.ref J, .ref P])) := hkc _ _ hx0 (ni2 (mp_ne hx0 hSM (by simp)) (mp_ne hx0 hTM (by simp)))
      have hP : M1 P = some (.inr (4, [.ref J, .ref PH, .ref WM, .ref MT, .ref WF, .int (nI g), .int (bI mi), .int (nI t), .int (nI mv)])) := hkc _ _ hP (ni2 (mp_ne hP hSM (by simp)) (mp_ne hP hTM (by simp)))
      have hkp := hkp.call hkc (by simp)
      have hM := hh.1
      refine W.widen (k := 6) (n := 484) (by decide) (by decide) ?_
      refine W.eq (g2 := F0 m 25 ls [.long ((tlV g mi t mv hv (bdV g t mv (hv 0) (ma (mv - 1))) (fcF fa mv)) (nI 1)), .long ((31 * dgF (tlV g mi t mv hv (bdV g t mv (hv 0) (ma (mv - 1))) (fcF fa mv)) 1))]) rfl ?_
      refine lv_ladd hx hb dX8_digest_25 ?_
      refine tpl (x' := dgF (tlV g mi t mv hv (bdV g t mv (hv 0) (ma (mv - 1))) (fcF fa mv)) 2) (rfl) ?_
      refine lv_lstore_n (lv' := [(1, .long (dgF (tlV g mi t mv hv (bdV g t mv (hv 0) (ma (mv - 1))) (fcF fa mv)) 2)), (3, .int (nI 1)), (0, .ref x)]) hx hb dX8_digest_26 rfl hl (by decide) rfl (fun ls hl => ?_)
      refine lv_iinc (v := nI 2) (lv' := [(3, .int (nI 2)), (1, .long (dgF (tlV g mi t mv hv (bdV g t mv (hv 0) (ma (mv - 1))) (fcF fa mv)) 2)), (0, .ref x)]) hx hb dX8_digest_27 hl (k := 1) rfl (rfl) (by decide) rfl (fun ls hl => ?_)
      refine lv_goto (tgt := 6) hx hb dX8_digest_30 (by decide) ?_
      refine lv_iload_n hx hb dX8_digest_6 rfl (lv_at hl 0 rfl) ?_
      refine lv_bipush (v := 9) hx hb dX8_digest_7 (by decide) ?_
      refine bi_ge (tgt := 33) hx hb dX8_digest_9 (by decide) (fun c_9 n_9 => ?_) (fun c_9 n_9 => ?_)
      · exact absurd c_9 (by decide)
      · skip
        refine lv_ldc2 hx hb hown cst_178 dX8_digest_12 ?_
        refine lv_lload_n hx hb dX8_digest_15 rfl (lv_at hl 1 rfl) ?_
        refine lv_lmul hx hb dX8_digest_16 ?_
        refine lv_aload_n hx hb dX8_digest_17 rfl (lv_at hl 2 rfl) ?_
        refine m_get (ci := 8) (C := RX8) (T := TX8) (N := 2) (v := .ref P) hx hb hts in_X8 hown hK hM hx0 rfl 1 (by decide) fl_21 (fun _ h => h) rfl dX8_digest_18 ?_
        refine lv_iload_n hx hb dX8_digest_21 rfl (lv_at hl 0 rfl) ?_
        refine cmV (As := [.int (nI 2)]) (rest := [.long ((31 * dgF (tlV g mi t mv hv (bdV g t mv (hv 0) (ma (mv - 1))) (fcF fa mv)) 2))]) (k_X4_tell l D cA _ P J PH WM MT WF g t mv mi hv wh ma fa TG GO SG BG TM SM (nI 2) hpw hJD hok hmv hlm) ⟨hx, hb, hml, hown, hts⟩ (cwV 1 hts gX8_digest_X4_tell rfl rfl rfl (by decide +kernel) ⟨by decide, by decide⟩) hK hh hP rfl rfl hl.1 rfl (Nat.le_of_ble_eq_true rfl) dX8_digest_22 ⟨by decide, by decide⟩ (fun v9 M1 H1 locs1 hpost hh hz9 hk9 hn9 => ?_)
        obtain ⟨rfl, hJD1, hkc⟩ := hpost
        obtain ⟨fs0, hSM, -⟩ := id hJD.2.2.1
        obtain ⟨ft0, hTM, -⟩ := id hJD.2.2.2
        have hpw := hpw.kp hSM hTM hkc
        have hJD := hJD1
        have hx0 : M1 x = some (.inr (8, [.ref J, .ref P])) := hkc _ _ hx0 (ni2 (mp_ne hx0 hSM (by simp)) (mp_ne hx0 hTM (by simp)))
        have hP : M1 P = some (.inr (4, [.ref J, .ref PH, .ref WM, .ref MT, .ref WF, .int (nI g), .int (bI mi), .int (nI t), .int (nI mv)])) := hkc _ _ hP (ni2 (mp_ne hP hSM (by simp)) (mp_ne hP hTM (by simp)))
        have hkp := hkp.call hkc (by simp)
        have hM := hh.1
        refine W.widen (k := 9) (n := 726) (by decide) (by decide) ?_
        refine W.eq (g2 := F0 m 25 ls [.long ((tlV g mi t mv hv (bdV g t mv (hv 0) (ma (mv - 1))) (fcF fa mv)) (nI 2)), .long ((31 * dgF (tlV g mi t mv hv (bdV g t mv (hv 0) (ma (mv - 1))) (fcF fa mv)) 2))]) rfl ?_
        refine lv_ladd hx hb dX8_digest_25 ?_
        refine tpl (x' := dgF (tlV g mi t mv hv (bdV g t mv (hv 0) (ma (mv - 1))) (fcF fa mv)) 3) (rfl) ?_
        refine lv_lstore_n (lv' := [(1, .long (dgF (tlV g mi t mv hv (bdV g t mv (hv 0) (ma (mv - 1))) (fcF fa mv)) 3)), (3, .int (nI 2)), (0, .ref x)]) hx hb dX8_digest_26 rfl hl (by decide) rfl (fun ls hl => ?_)
        refine lv_iinc (v := nI 3) (lv' := [(3, .int (nI 3)), (1, .long (dgF (tlV g mi t mv hv (bdV g t mv (hv 0) (ma (mv - 1))) (fcF fa mv)) 3)), (0, .ref x)]) hx hb dX8_digest_27 hl (k := 1) rfl (rfl) (by decide) rfl (fun ls hl => ?_)
        refine lv_goto (tgt := 6) hx hb dX8_digest_30 (by decide) ?_
        refine lv_iload_n hx hb dX8_digest_6 rfl (lv_at hl 0 rfl) ?_
        refine lv_bipush (v := 9) hx hb dX8_digest_7 (by decide) ?_
        refine bi_ge (tgt := 33) hx hb dX8_digest_9 (by decide) (fun c_9 n_9 => ?_) (fun c_9 n_9 => ?_)
        · exact absurd c_9 (by decide)
        · skip
          refine lv_ldc2 hx hb hown cst_178 dX8_digest_12 ?_
          refine lv_lload_n hx hb dX8_digest_15 rfl (lv_at hl 1 rfl) ?_
          refine lv_lmul hx hb dX8_digest_16 ?_
          refine lv_aload_n hx hb dX8_digest_17 rfl (lv_at hl 2 rfl) ?_
          refine m_get (ci := 8) (C := RX8) (T := TX8) (N := 2) (v := .ref P) hx hb hts in_X8 hown hK hM hx0 rfl 1 (by decide) fl_21 (fun _ h => h) rfl dX8_digest_18 ?_
          refine lv_iload_n hx hb dX8_digest_21 rfl (lv_at hl 0 rfl) ?_
          refine cmV (As := [.int (nI 3)]) (rest := [.long ((31 * dgF (tlV g mi t mv hv (bdV g t mv (hv 0) (ma (mv - 1))) (fcF fa mv)) 3))]) (k_X4_tell l D cA _ P J PH WM MT WF g t mv mi hv wh ma fa TG GO SG BG TM SM (nI 3) hpw hJD hok hmv hlm) ⟨hx, hb, hml, hown, hts⟩ (cwV 1 hts gX8_digest_X4_tell rfl rfl rfl (by decide +kernel) ⟨by decide, by decide⟩) hK hh hP rfl rfl hl.1 rfl (Nat.le_of_ble_eq_true rfl) dX8_digest_22 ⟨by decide, by decide⟩ (fun v9 M1 H1 locs1 hpost hh hz9 hk9 hn9 => ?_)
          obtain ⟨rfl, hJD1, hkc⟩ := hpost
          obtain ⟨fs0, hSM, -⟩ := id hJD.2.2.1
          obtain ⟨ft0, hTM, -⟩ := id hJD.2.2.2
          have hpw := hpw.kp hSM hTM hkc
          have hJD := hJD1
          have hx0 : M1 x = some (.inr (8, [.ref J, .ref P])) := hkc _ _ hx0 (ni2 (mp_ne hx0 hSM (by simp)) (mp_ne hx0 hTM (by simp)))
          have hP : M1 P = some (.inr (4, [.ref J, .ref PH, .ref WM, .ref MT, .ref WF, .int (nI g), .int (bI mi), .int (nI t), .int (nI mv)])) := hkc _ _ hP (ni2 (mp_ne hP hSM (by simp)) (mp_ne hP hTM (by simp)))
          have hkp := hkp.call hkc (by simp)
          have hM := hh.1
          refine W.widen (k := 12) (n := 968) (by decide) (by decide) ?_
          refine W.eq (g2 := F0 m 25 ls [.long ((tlV g mi t mv hv (bdV g t mv (hv 0) (ma (mv - 1))) (fcF fa mv)) (nI 3)), .long ((31 * dgF (tlV g mi t mv hv (bdV g t mv (hv 0) (ma (mv - 1))) (fcF fa mv)) 3))]) rfl ?_
          refine lv_ladd hx hb dX8_digest_25 ?_
          refine tpl (x' := dgF (tlV g mi t mv hv (bdV g t mv (hv 0) (ma (mv - 1))) (fcF fa mv)) 4) (rfl) ?_
          refine lv_lstore_n (lv' := [(1, .long (dgF (tlV g mi t mv hv (bdV g t mv (hv 0) (ma (mv - 1))) (fcF fa mv)) 4)), (3, .int (nI 3)), (0, .ref x)]) hx hb dX8_digest_26 rfl hl (by decide) rfl (fun ls hl => ?_)
          refine lv_iinc (v := nI 4) (lv' := [(3, .int (nI 4)), (1, .long (dgF (tlV g mi t mv hv (bdV g t mv (hv 0) (ma (mv - 1))) (fcF fa mv)) 4)), (0, .ref x)]) hx hb dX8_digest_27 hl (k := 1) rfl (rfl) (by decide) rfl (fun ls hl => ?_)
          refine lv_goto (tgt := 6) hx hb dX8_digest_30 (by decide) ?_
          refine lv_iload_n hx hb dX8_digest_6 rfl (lv_at hl 0 rfl) ?_
          refine lv_bipush (v := 9) hx hb dX8_digest_7 (by decide) ?_
          refine bi_ge (tgt := 33) hx hb dX8_digest_9 (by decide) (fun c_9 n_9 => ?_) (fun c_9 n_9 => ?_)
          · exact absurd c_9 (by decide)
          · skip
            refine lv_ldc2 hx hb hown cst_178 dX8_digest_12 ?_
            refine lv_lload_n hx hb dX8_digest_15 rfl (lv_at hl 1 rfl) ?_
            refine lv_lmul hx hb dX8_digest_16 ?_
            refine lv_aload_n hx hb dX8_digest_17 rfl (lv_at hl 2 rfl) ?_
            refine m_get (ci := 8) (C := RX8) (T := TX8) (N := 2) (v := .ref P) hx hb hts in_X8 hown hK hM hx0 rfl 1 (by decide) fl_21 (fun _ h => h) rfl dX8_digest_18 ?_
            refine lv_iload_n hx hb dX8_digest_21 rfl (lv_at hl 0 rfl) ?_
            refine cmV (As := [.int (nI 4)]) (rest := [.long ((31 * dgF (tlV g mi t mv hv (bdV g t mv (hv 0) (ma (mv - 1))) (fcF fa mv)) 4))]) (k_X4_tell l D cA _ P J PH WM MT WF g t mv mi hv wh ma fa TG GO SG BG TM SM (nI 4) hpw hJD hok hmv hlm) ⟨hx, hb, hml, hown, hts⟩ (cwV 1 hts gX8_digest_X4_tell rfl rfl rfl (by decide +kernel) ⟨by decide, by decide⟩) hK hh hP rfl rfl hl.1 rfl (Nat.le_of_ble_eq_true rfl) dX8_digest_22 ⟨by decide, by decide⟩ (fun v9 M1 H1 locs1 hpost hh hz9 hk9 hn9 => ?_)
            obtain ⟨rfl, hJD1, hkc⟩ := hpost
            obtain ⟨fs0, hSM, -⟩ := id hJD.2.2.1
            obtain ⟨ft0, hTM, -⟩ := id hJD.2.2.2
            have hpw := hpw.kp hSM hTM hkc
            have hJD := hJD1
            have hx0 : M1 x = some (.inr (8, [.ref J, .ref P])) := hkc _ _ hx0 (ni2 (mp_ne hx0 hSM (by simp)) (mp_ne hx0 hTM (by simp)))
            have hP : M1 P = some (.inr (4, [.ref J, .ref PH, .ref WM, .ref MT, .ref WF, .int (nI g), .int (bI mi), .int (nI t), .int (nI mv)])) := hkc _ _ hP (ni2 (mp_ne hP hSM (by simp)) (mp_ne hP hTM (by simp)))
            have hkp := hkp.call hkc (by simp)
            have hM := hh.1
            refine W.widen (k := 15) (n := 1210) (by decide) (by decide) ?_
            refine W.eq (g2 := F0 m 25 ls [.long ((tlV g mi t mv hv (bdV g t mv (hv 0) (ma (mv - 1))) (fcF fa mv)) (nI 4)), .long ((31 * dgF (tlV g mi t mv hv (bdV g t mv (hv 0) (ma (mv - 1))) (fcF fa mv)) 4))]) rfl ?_
            refine lv_ladd hx hb dX8_digest_25 ?_
            refine tpl (x' := dgF (tlV g mi t mv hv (bdV g t mv (hv 0) (ma (mv - 1))) (fcF fa mv)) 5) (rfl) ?_
            refine lv_lstore_n (lv' := [(1, .long (dgF (tlV g mi t mv hv (bdV g t mv (hv 0) (ma (mv - 1))) (fcF fa mv)) 5)), (3, .int (nI 4)), (0, .ref x)]) hx hb dX8_digest_26 rfl hl (by decide) rfl (fun ls hl => ?_)
            refine lv_iinc (v := nI 5) (lv' := [(3, .int (nI 5)), (1, .long (dgF (tlV g mi t mv hv (bdV g t mv (hv 0) (ma (mv - 1))) (fcF fa mv)) 5)), (0, .ref x)]) hx hb dX8_digest_27 hl (k := 1) rfl (rfl) (by decide) rfl (fun ls hl => ?_)
            refine lv_goto (tgt := 6) hx hb dX8_digest_30 (by decide) ?_
            refine lv_iload_n hx hb dX8_digest_6 rfl (lv_at hl 0 rfl) ?_
            refine lv_bipush (v := 9) hx hb dX8_digest_7 (by decide) ?_
            refine bi_ge (tgt := 33) hx hb dX8_digest_9 (by decide) (fun c_9 n_9 => ?_) (fun c_9 n_9 => ?_)
            · exact absurd c_9 (by decide)
            · skip
              refine lv_ldc2 hx hb hown cst_178 dX8_digest_12 ?_
              refine lv_lload_n hx hb dX8_digest_15 rfl (lv_at hl 1 rfl) ?_
              refine lv_lmul hx hb dX8_digest_16 ?_
              refine lv_aload_n hx hb dX8_digest_17 rfl (lv_at hl 2 rfl) ?_
              refine m_get (ci := 8) (C := RX8) (T := TX8) (N := 2) (v := .ref P) hx hb hts in_X8 hown hK hM hx0 rfl 1 (by decide) fl_21 (fun _ h => h) rfl dX8_digest_18 ?_
              refine lv_iload_n hx hb dX8_digest_21 rfl (lv_at hl 0 rfl) ?_
              refine cmV (As := [.int (nI 5)]) (rest := [.long ((31 * dgF (tlV g mi t mv hv (bdV g t mv (hv 0) (ma (mv - 1))) (fcF fa mv)) 5))]) (k_X4_tell l D cA _ P J PH WM MT WF g t mv mi hv wh ma fa TG GO SG BG TM SM (nI 5) hpw hJD hok hmv hlm) ⟨hx, hb, hml, hown, hts⟩ (cwV 1 hts gX8_digest_X4_tell rfl rfl rfl (by decide +kernel) ⟨by decide, by decide⟩) hK hh hP rfl rfl hl.1 rfl (Nat.le_of_ble_eq_true rfl) dX8_digest_22 ⟨by decide, by decide⟩ (fun v9 M1 H1 locs1 hpost hh hz9 hk9 hn9 => ?_)
              obtain ⟨rfl, hJD1, hkc⟩ := hpost
              obtain ⟨fs0, hSM, -⟩ := id hJD.2.2.1
              obtain ⟨ft0, hTM, -⟩ := id hJD.2.2.2
              have hpw := hpw.kp hSM hTM hkc
              have hJD := hJD1
              have hx0 : M1 x = some (.inr (8, [.ref J, .ref P])) := hkc _ _ hx0 (ni2 (mp_ne hx0 hSM (by simp)) (mp_ne hx0 hTM (by simp)))
              have hP : M1 P = some (.inr (4, [.ref J, .ref PH, .ref WM, .ref MT, .ref WF, .int (nI g), .int (bI mi), .int (nI t), .int (nI mv)])) := hkc _ _ hP (ni2 (mp_ne hP hSM (by simp)) (mp_ne hP hTM (by simp)))
              have hkp := hkp.call hkc (by simp)
              have hM := hh.1
              refine W.widen (k := 18) (n := 1452) (by decide) (by decide) ?_
              refine W.eq (g2 := F0 m 25 ls [.long ((tlV g mi t mv hv (bdV g t mv (hv 0) (ma (mv - 1))) (fcF fa mv)) (nI 5)), .long ((31 * dgF (tlV g mi t mv hv (bdV g t mv (hv 0) (ma (mv - 1))) (fcF fa mv)) 5))]) rfl ?_
              refine lv_ladd hx hb dX8_digest_25 ?_
              refine tpl (x' := dgF (tlV g mi t mv hv (bdV g t mv (hv 0) (ma (mv - 1))) (fcF fa mv)) 6) (rfl) ?_
              refine lv_lstore_n (lv' := [(1, .long (dgF (tlV g mi t mv hv (bdV g t mv (hv 0) (ma (mv - 1))) (fcF fa mv)) 6)), (3, .int (nI 5)), (0, .ref x)]) hx hb dX8_digest_26 rfl hl (by decide) rfl (fun ls hl => ?_)
              refine lv_iinc (v := nI 6) (lv' := [(3, .int (nI 6)), (1, .long (dgF (tlV g mi t mv hv (bdV g t mv (hv 0) (ma (mv - 1))) (fcF fa mv)) 6)), (0, .ref x)]) hx hb dX8_digest_27 hl (k := 1) rfl (rfl) (by decide) rfl (fun ls hl => ?_)
              refine lv_goto (tgt := 6) hx hb dX8_digest_30 (by decide) ?_
              refine lv_iload_n hx hb dX8_digest_6 rfl (lv_at hl 0 rfl) ?_
              refine lv_bipush (v := 9) hx hb dX8_digest_7 (by decide) ?_
              refine bi_ge (tgt := 33) hx hb dX8_digest_9 (by decide) (fun c_9 n_9 => ?_) (fun c_9 n_9 => ?_)
              · exact absurd c_9 (by decide)
              · skip
                refine lv_ldc2 hx hb hown cst_178 dX8_digest_12 ?_
                refine lv_lload_n hx hb dX8_digest_15 rfl (lv_at hl 1 rfl) ?_
                refine lv_lmul hx hb dX8_digest_16 ?_
                refine lv_aload_n hx hb dX8_digest_17 rfl (lv_at hl 2 rfl) ?_
                refine m_get (ci := 8) (C := RX8) (T := TX8) (N := 2) (v := .ref P) hx hb hts in_X8 hown hK hM hx0 rfl 1 (by decide) fl_21 (fun _ h => h) rfl dX8_digest_18 ?_
                refine lv_iload_n hx hb dX8_digest_21 rfl (lv_at hl 0 rfl) ?_
                refine cmV (As := [.int (nI 6)]) (rest := [.long ((31 * dgF (tlV g mi t mv hv (bdV g t mv (hv 0) (ma (mv - 1))) (fcF fa mv)) 6))]) (k_X4_tell l D cA _ P J PH WM MT WF g t mv mi hv wh ma fa TG GO SG BG TM SM (nI 6) hpw hJD hok hmv hlm) ⟨hx, hb, hml, hown, hts⟩ (cwV 1 hts gX8_digest_X4_tell rfl rfl rfl (by decide +kernel) ⟨by decide, by decide⟩) hK hh hP rfl rfl hl.1 rfl (Nat.le_of_ble_eq_true rfl) dX8_digest_22 ⟨by decide, by decide⟩ (fun v9 M1 H1 locs1 hpost hh hz9 hk9 hn9 => ?_)
                obtain ⟨rfl, hJD1, hkc⟩ := hpost
                obtain ⟨fs0, hSM, -⟩ := id hJD.2.2.1
                obtain ⟨ft0, hTM, -⟩ := id hJD.2.2.2
                have hpw := hpw.kp hSM hTM hkc
                have hJD := hJD1
                have hx0 : M1 x = some (.inr (8, [.ref J, .ref P])) := hkc _ _ hx0 (ni2 (mp_ne hx0 hSM (by simp)) (mp_ne hx0 hTM (by simp)))
                have hP : M1 P = some (.inr (4, [.ref J, .ref PH, .ref WM, .ref MT, .ref WF, .int (nI g), .int (bI mi), .int (nI t), .int (nI mv)])) := hkc _ _ hP (ni2 (mp_ne hP hSM (by simp)) (mp_ne hP hTM (by simp)))
                have hkp := hkp.call hkc (by simp)
                have hM := hh.1
                refine W.widen (k := 21) (n := 1694) (by decide) (by decide) ?_
                refine W.eq (g2 := F0 m 25 ls [.long ((tlV g mi t mv hv (bdV g t mv (hv 0) (ma (mv - 1))) (fcF fa mv)) (nI 6)), .long ((31 * dgF (tlV g mi t mv hv (bdV g t mv (hv 0) (ma (mv - 1))) (fcF fa mv)) 6))]) rfl ?_
                refine lv_ladd hx hb dX8_digest_25 ?_
                refine tpl (x' := dgF (tlV g mi t mv hv (bdV g t mv (hv 0) (ma (mv - 1))) (fcF fa mv)) 7) (rfl) ?_
                refine lv_lstore_n (lv' := [(1, .long (dgF (tlV g mi t mv hv (bdV g t mv (hv 0) (ma (mv - 1))) (fcF fa mv)) 7)), (3, .int (nI 6)), (0, .ref x)]) hx hb dX8_digest_26 rfl hl (by decide) rfl (fun ls hl => ?_)
                refine lv_iinc (v := nI 7) (lv' := [(3, .int (nI 7)), (1, .long (dgF (tlV g mi t mv hv (bdV g t mv (hv 0) (ma (mv - 1))) (fcF fa mv)) 7)), (0, .ref x)]) hx hb dX8_digest_27 hl (k := 1) rfl (rfl) (by decide) rfl (fun ls hl => ?_)
                refine lv_goto (tgt := 6) hx hb dX8_digest_30 (by decide) ?_
                refine lv_iload_n hx hb dX8_digest_6 rfl (lv_at hl 0 rfl) ?_
                refine lv_bipush (v := 9) hx hb dX8_digest_7 (by decide) ?_
                refine bi_ge (tgt := 33) hx hb dX8_digest_9 (by decide) (fun c_9 n_9 => ?_) (fun c_9 n_9 => ?_)
                · exact absurd c_9 (by decide)
                · skip
                  refine lv_ldc2 hx hb hown cst_178 dX8_digest_12 ?_
                  refine lv_lload_n hx hb dX8_digest_15 rfl (lv_at hl 1 rfl) ?_
                  refine lv_lmul hx hb dX8_digest_16 ?_
                  refine lv_aload_n hx hb dX8_digest_17 rfl (lv_at hl 2 rfl) ?_
                  refine m_get (ci := 8) (C := RX8) (T := TX8) (N := 2) (v := .ref P) hx hb hts in_X8 hown hK hM hx0 rfl 1 (by decide) fl_21 (fun _ h => h) rfl dX8_digest_18 ?_
                  refine lv_iload_n hx hb dX8_digest_21 rfl (lv_at hl 0 rfl) ?_
                  refine cmV (As := [.int (nI 7)]) (rest := [.long ((31 * dgF (tlV g mi t mv hv (bdV g t mv (hv 0) (ma (mv - 1))) (fcF fa mv)) 7))]) (k_X4_tell l D cA _ P J PH WM MT WF g t mv mi hv wh ma fa TG GO SG BG TM SM (nI 7) hpw hJD hok hmv hlm) ⟨hx, hb, hml, hown, hts⟩ (cwV 1 hts gX8_digest_X4_tell rfl rfl rfl (by decide +kernel) ⟨by decide, by decide⟩) hK hh hP rfl rfl hl.1 rfl (Nat.le_of_ble_eq_true rfl) dX8_digest_22 ⟨by decide, by decide⟩ (fun v9 M1 H1 locs1 hpost hh hz9 hk9 hn9 => ?_)
                  obtain ⟨rfl, hJD1, hkc⟩ := hpost
                  obtain ⟨fs0, hSM, -⟩ := id hJD.2.2.1
                  obtain ⟨ft0, hTM, -⟩ := id hJD.2.2.2
                  have hpw := hpw.kp hSM hTM hkc
                  have hJD := hJD1
                  have hx0 : M1 x = some (.inr (8, [.ref J, .ref P])) := hkc _ _ hx0 (ni2 (mp_ne hx0 hSM (by simp)) (mp_ne hx0 hTM (by simp)))
                  have hP : M1 P = some (.inr (4, [.ref J, .ref PH, .ref WM, .ref MT, .ref WF, .int (nI g), .int (bI mi), .int (nI t), .int (nI mv)])) := hkc _ _ hP (ni2 (mp_ne hP hSM (by simp)) (mp_ne hP hTM (by simp)))
                  have hkp := hkp.call hkc (by simp)
                  have hM := hh.1
                  refine W.widen (k := 24) (n := 1936) (by decide) (by decide) ?_
                  refine W.eq (g2 := F0 m 25 ls [.long ((tlV g mi t mv hv (bdV g t mv (hv 0) (ma (mv - 1))) (fcF fa mv)) (nI 7)), .long ((31 * dgF (tlV g mi t mv hv (bdV g t mv (hv 0) (ma (mv - 1))) (fcF fa mv)) 7))]) rfl ?_
                  refine lv_ladd hx hb dX8_digest_25 ?_
                  refine tpl (x' := dgF (tlV g mi t mv hv (bdV g t mv (hv 0) (ma (mv - 1))) (fcF fa mv)) 8) (rfl) ?_
                  refine lv_lstore_n (lv' := [(1, .long (dgF (tlV g mi t mv hv (bdV g t mv (hv 0) (ma (mv - 1))) (fcF fa mv)) 8)), (3, .int (nI 7)), (0, .ref x)]) hx hb dX8_digest_26 rfl hl (by decide) rfl (fun ls hl => ?_)
                  refine lv_iinc (v := nI 8) (lv' := [(3, .int (nI 8)), (1, .long (dgF (tlV g mi t mv hv (bdV g t mv (hv 0) (ma (mv - 1))) (fcF fa mv)) 8)), (0, .ref x)]) hx hb dX8_digest_27 hl (k := 1) rfl (rfl) (by decide) rfl (fun ls hl => ?_)
                  refine lv_goto (tgt := 6) hx hb dX8_digest_30 (by decide) ?_
                  refine lv_iload_n hx hb dX8_digest_6 rfl (lv_at hl 0 rfl) ?_
                  refine lv_bipush (v := 9) hx hb dX8_digest_7 (by decide) ?_
                  refine bi_ge (tgt := 33) hx hb dX8_digest_9 (by decide) (fun c_9 n_9 => ?_) (fun c_9 n_9 => ?_)
                  · exact absurd c_9 (by decide)
                  · skip
                    refine lv_ldc2 hx hb hown cst_178 dX8_digest_12 ?_
                    refine lv_lload_n hx hb dX8_digest_15 rfl (lv_at hl 1 rfl) ?_
                    refine lv_lmul hx hb dX8_digest_16 ?_
                    refine lv_aload_n hx hb dX8_digest_17 rfl (lv_at hl 2 rfl) ?_
                    refine m_get (ci := 8) (C := RX8) (T := TX8) (N := 2) (v := .ref P) hx hb hts in_X8 hown hK hM hx0 rfl 1 (by decide) fl_21 (fun _ h => h) rfl dX8_digest_18 ?_
                    refine lv_iload_n hx hb dX8_digest_21 rfl (lv_at hl 0 rfl) ?_
                    refine cmV (As := [.int (nI 8)]) (rest := [.long ((31 * dgF (tlV g mi t mv hv (bdV g t mv (hv 0) (ma (mv - 1))) (fcF fa mv)) 8))]) (k_X4_tell l D cA _ P J PH WM MT WF g t mv mi hv wh ma fa TG GO SG BG TM SM (nI 8) hpw hJD hok hmv hlm) ⟨hx, hb, hml, hown, hts⟩ (cwV 1 hts gX8_digest_X4_tell rfl rfl rfl (by decide +kernel) ⟨by decide, by decide⟩) hK hh hP rfl rfl hl.1 rfl (Nat.le_of_ble_eq_true rfl) dX8_digest_22 ⟨by decide, by decide⟩ (fun v9 M1 H1 locs1 hpost hh hz9 hk9 hn9 => ?_)
                    obtain ⟨rfl, hJD1, hkc⟩ := hpost
                    obtain ⟨fs0, hSM, -⟩ := id hJD.2.2.1
                    obtain ⟨ft0, hTM, -⟩ := id hJD.2.2.2
                    have hpw := hpw.kp hSM hTM hkc
                    have hJD := hJD1
                    have hx0 : M1 x = some (.inr (8, [.ref J, .ref P])) := hkc _ _ hx0 (ni2 (mp_ne hx0 hSM (by simp)) (mp_ne hx0 hTM (by simp)))
                    have hP : M1 P = some (.inr (4, [.ref J, .ref PH, .ref WM, .ref MT, .ref WF, .int (nI g), .int (bI mi), .int (nI t), .int (nI mv)])) := hkc _ _ hP (ni2 (mp_ne hP hSM (by simp)) (mp_ne hP hTM (by simp)))
                    have hkp := hkp.call hkc (by simp)
                    have hM := hh.1
                    refine W.widen (k := 27) (n := 2178) (by decide) (by decide) ?_
                    refine W.eq (g2 := F0 m 25 ls [.long ((tlV g mi t mv hv (bdV g t mv (hv 0) (ma (mv - 1))) (fcF fa mv)) (nI 8)), .long ((31 * dgF (tlV g mi t mv hv (bdV g t mv (hv 0) (ma (mv - 1))) (fcF fa mv)) 8))]) rfl ?_
                    refine lv_ladd hx hb dX8_digest_25 ?_
                    refine tpl (x' := dgF (tlV g mi t mv hv (bdV g t mv (hv 0) (ma (mv - 1))) (fcF fa mv)) 9) (rfl) ?_
                    refine lv_lstore_n (lv' := [(1, .long (dgF (tlV g mi t mv hv (bdV g t mv (hv 0) (ma (mv - 1))) (fcF fa mv)) 9)), (3, .int (nI 8)), (0, .ref x)]) hx hb dX8_digest_26 rfl hl (by decide) rfl (fun ls hl => ?_)
                    refine lv_iinc (v := nI 9) (lv' := [(3, .int (nI 9)), (1, .long (dgF (tlV g mi t mv hv (bdV g t mv (hv 0) (ma (mv - 1))) (fcF fa mv)) 9)), (0, .ref x)]) hx hb dX8_digest_27 hl (k := 1) rfl (rfl) (by decide) rfl (fun ls hl => ?_)
                    refine lv_goto (tgt := 6) hx hb dX8_digest_30 (by decide) ?_
                    refine lv_iload_n hx hb dX8_digest_6 rfl (lv_at hl 0 rfl) ?_
                    refine lv_bipush (v := 9) hx hb dX8_digest_7 (by decide) ?_
                    refine bi_ge (tgt := 33) hx hb dX8_digest_9 (by decide) (fun c_9 n_9 => ?_) (fun c_9 n_9 => ?_)
                    · skip
                      refine lv_lload_n hx hb dX8_digest_33 rfl (lv_at hl 1 rfl) ?_
                      exact hretl _ _ _ _ _ _ _ _ hh (⟨rfl, hJD, hkp⟩) (by decide) (by decide) dX8_digest_34 rfl
                    · exact absurd c_9 (by decide)
set_option maxHeartbeats 1000000 in
set_option maxRecDepth 100000 in
theorem k_X1_init (l : Launch) (D : va_G) (cA : Nat → ClassId) (M : mp) (q r0 : Nat)  (hq0 : M q = some (.inr (1, [.null])))  : MC l D cA yX1_init wsX1_init 1 20 0 0 [.ref q, .ref r0] M (fun r M' => r = none ∧ M' q = some (.inr (1, [.ref r0])) ∧ kpL M M' [q]) := by
  refine MC.of (cc := cX1_init) (maxL := 2) (ret := none) (by decide) rfl (Nat.le_of_ble_eq_true rfl) ?_
  intro p e s m args below meth c Q ls B hh hl hretv hreti hretz hretl hreta
  obtain ⟨hx, hb, hown, hts, hml, hK, hin⟩ := B
  have hM := hh.1
  have hM_0 := hh.1
  have hkp : kpL M M [q] := kpL.rf M _
  have hown : s.vm.findClass RX1 = some m.cls := hown
  have hl : lv_has ls 2 [(0, .ref q), (1, .ref r0)] := hl
  have ob_l := hts (.methodLink RX1 1 objectInit) (by decide +kernel)
  have ob_i := hts (.instanceMethod objectInit) (by decide +kernel)
  have ob_c := hts (.code objectInit ⟨#[0xb1]⟩ 1 none) (by decide +kernel)
  have in_X1 : ∀ w ∈ wsX10, w ∈ wsX1_init := by decide +kernel
  have fl_7 := hts (.fieldLink RX1 7 "GoldHeaps$Golden" "fibonacci" "LGoldHeaps$Sums;") (by decide +kernel)
  refine lv_aload_n hx hb dX1_init_0 rfl (lv_at hl 0 rfl) ?_
  refine W.objInit hx hb hown ob_l ob_i ob_c rfl (by rw [hml]; exact hl.1) rfl dX1_init_1 (Nat.le_of_ble_eq_true rfl) (Nat.le_of_ble_eq_true rfl) ?_
  refine W.eq (g2 := F0 m 4 ls []) rfl ?_
  refine lv_aload_n hx hb dX1_init_4 rfl (lv_at hl 0 rfl) ?_
  refine lv_aload_n hx hb dX1_init_5 rfl (lv_at hl 1 rfl) ?_
  refine m_putF (ci := 1) (C := RX1) (T := TX1) (N := 1) (v := .ref r0) hx hb hts in_X1 tyX1 tyX1_ok nmX1 hown hK hh hq0 rfl 0 (by decide) fl_7 (fun _ h => h) rfl hin rfl (ty := tyX1 0) (by decide +kernel) (rfl) (rfl) (Nat.le_of_ble_eq_true rfl) dX1_init_6 (fun M1 H1 locs1 e1 hh => ?_)
  have hq0 := mu_at e1
  have hkp := hkp.put e1 (by simp)
  have hq0 : M1 q = some (.inr (1, [.ref r0])) := hq0
  have hM := hh.1
  exact hretv _ _ _ _ _ _ _ hh (⟨rfl, hq0, hkp⟩) (by decide) (by decide) dX1_init_9 rfl
set_option maxHeartbeats 1000000 in
set_option maxRecDepth 100000 in
theorem k_X5_init (l : Launch) (D : va_G) (cA : Nat → ClassId) (M : mp) (q r0 : Nat)  (hq0 : M q = some (.inr (5, [.null])))  : MC l D cA yX5_init wsX5_init 1 20 0 0 [.ref q, .ref r0] M (fun r M' => r = none ∧ M' q = some (.inr (5, [.ref r0])) ∧ kpL M M' [q]) := by
  refine MC.of (cc := cX5_init) (maxL := 2) (ret := none) (by decide) rfl (Nat.le_of_ble_eq_true rfl) ?_
  intro p e s m args below meth c Q ls B hh hl hretv hreti hretz hretl hreta
  obtain ⟨hx, hb, hown, hts, hml, hK, hin⟩ := B
  have hM := hh.1
  have hM_0 := hh.1
  have hkp : kpL M M [q] := kpL.rf M _
  have hown : s.vm.findClass RX5 = some m.cls := hown
  have hl : lv_has ls 2 [(0, .ref q), (1, .ref r0)] := hl
  have ob_l := hts (.methodLink RX5 1 objectInit) (by decide +kernel)
  have ob_i := hts (.instanceMethod objectInit) (by decide +kernel)
  have ob_c := hts (.code objectInit ⟨#[0xb1]⟩ 1 none) (by decide +kernel)
  have in_X5 : ∀ w ∈ wsX50, w ∈ wsX5_init := by decide +kernel
  have fl_7 := hts (.fieldLink RX5 7 "GoldHeaps$SharesGame" "golden" "LGoldHeaps$Golden;") (by decide +kernel)
  refine lv_aload_n hx hb dX5_init_0 rfl (lv_at hl 0 rfl) ?_
  refine W.objInit hx hb hown ob_l ob_i ob_c rfl (by rw [hml]; exact hl.1) rfl dX5_init_1 (Nat.le_of_ble_eq_true rfl) (Nat.le_of_ble_eq_true rfl) ?_
  refine W.eq (g2 := F0 m 4 ls []) rfl ?_
  refine lv_aload_n hx hb dX5_init_4 rfl (lv_at hl 0 rfl) ?_
  refine lv_aload_n hx hb dX5_init_5 rfl (lv_at hl 1 rfl) ?_
  refine m_putF (ci := 5) (C := RX5) (T := TX5) (N := 1) (v := .ref r0) hx hb hts in_X5 tyX5 tyX5_ok nmX5 hown hK hh hq0 rfl 0 (by decide) fl_7 (fun _ h => h) rfl hin rfl (ty := tyX5 0) (by decide +kernel) (rfl) (rfl) (Nat.le_of_ble_eq_true rfl) dX5_init_6 (fun M1 H1 locs1 e1 hh => ?_)
  have hq0 := mu_at e1
  have hkp := hkp.put e1 (by simp)
  have hq0 : M1 q = some (.inr (5, [.ref r0])) := hq0
  have hM := hh.1
  exact hretv _ _ _ _ _ _ _ hh (⟨rfl, hq0, hkp⟩) (by decide) (by decide) dX5_init_9 rfl
set_option maxHeartbeats 1000000 in
set_option maxRecDepth 100000 in
theorem k_X0_init (l : Launch) (D : va_G) (cA : Nat → ClassId) (M : mp) (q r0 : Nat)  (hq0 : M q = some (.inr (0, [.null])))  : MC l D cA yX0_init wsX0_init 1 20 0 0 [.ref q, .ref r0] M (fun r M' => r = none ∧ M' q = some (.inr (0, [.ref r0])) ∧ kpL M M' [q]) := by
  refine MC.of (cc := cX0_init) (maxL := 2) (ret := none) (by decide) rfl (Nat.le_of_ble_eq_true rfl) ?_
  intro p e s m args below meth c Q ls B hh hl hretv hreti hretz hretl hreta
  obtain ⟨hx, hb, hown, hts, hml, hK, hin⟩ := B
  have hM := hh.1
  have hM_0 := hh.1
  have hkp : kpL M M [q] := kpL.rf M _
  have hown : s.vm.findClass RX0 = some m.cls := hown
  have hl : lv_has ls 2 [(0, .ref q), (1, .ref r0)] := hl
  have ob_l := hts (.methodLink RX0 3 objectInit) (by decide +kernel)
  have ob_i := hts (.instanceMethod objectInit) (by decide +kernel)
  have ob_c := hts (.code objectInit ⟨#[0xb1]⟩ 1 none) (by decide +kernel)
  have in_X0 : ∀ w ∈ wsX00, w ∈ wsX0_init := by decide +kernel
  have fl_9 := hts (.fieldLink RX0 9 "GoldHeaps$BothGame" "golden" "LGoldHeaps$Golden;") (by decide +kernel)
  refine lv_aload_n hx hb dX0_init_0 rfl (lv_at hl 0 rfl) ?_
  refine W.objInit hx hb hown ob_l ob_i ob_c rfl (by rw [hml]; exact hl.1) rfl dX0_init_1 (Nat.le_of_ble_eq_true rfl) (Nat.le_of_ble_eq_true rfl) ?_
  refine W.eq (g2 := F0 m 4 ls []) rfl ?_
  refine lv_aload_n hx hb dX0_init_4 rfl (lv_at hl 0 rfl) ?_
  refine lv_aload_n hx hb dX0_init_5 rfl (lv_at hl 1 rfl) ?_
  refine m_putF (ci := 0) (C := RX0) (T := TX0) (N := 1) (v := .ref r0) hx hb hts in_X0 tyX0 tyX0_ok nmX0 hown hK hh hq0 rfl 0 (by decide) fl_9 (fun _ h => h) rfl hin rfl (ty := tyX0 0) (by decide +kernel) (rfl) (rfl) (Nat.le_of_ble_eq_true rfl) dX0_init_6 (fun M1 H1 locs1 e1 hh => ?_)
  have hq0 := mu_at e1
  have hkp := hkp.put e1 (by simp)
  have hq0 : M1 q = some (.inr (0, [.ref r0])) := hq0
  have hM := hh.1
  exact hretv _ _ _ _ _ _ _ hh (⟨rfl, hq0, hkp⟩) (by decide) (by decide) dX0_init_9 rfl
