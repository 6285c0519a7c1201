set_option maxHeartbeats 1000000 in
set_option maxRecDepth 100000 in
theorem k_X2_init (l : Launch) (D : va_G) (cA : Nat → ClassId) (M : mp) (J : Nat)  (hJ : M J = some (.inr (2, [.null, .null, .null, .null, .null])))  : MC l D cA yX2_init wsX2_init 3 68 9 264 [.ref J] M (fun r M' => r = none ∧ (∃ TG GO SG BG TM SM, jdW cA M' J TG GO SG BG TM SM) ∧ kpL M M' [J]) := by
  refine MC.of (cc := cX2_init) (maxL := 1) (ret := none) (by decide) rfl (Nat.le_of_ble_eq_true rfl) ?_
  intro p e s m args below meth c Q ls B hh hl hretv hreti hretz hretl hreta
  obtain ⟨hx, hb, hown, hts, hml, hK, hin⟩ := B
  have hM := hh.1
  have hM_0 := hh.1
  have hkp : kpL M M [J] := kpL.rf M _
  have hown : s.vm.findClass RX2 = some m.cls := hown
  have hl : lv_has ls 1 [(0, .ref J)] := hl
  have ob_l := hts (.methodLink RX2 3 objectInit) (by decide +kernel)
  have ob_i := hts (.instanceMethod objectInit) (by decide +kernel)
  have ob_c := hts (.code objectInit ⟨#[0xb1]⟩ 1 none) (by decide +kernel)
  have cl_9 := hts (.classLink RX2 9 RX3) (by decide +kernel)
  have in_X2 : ∀ w ∈ wsX20, w ∈ wsX2_init := by decide +kernel
  have fl_11 := hts (.fieldLink RX2 11 "GoldHeaps$Judge" "tablesMade" "[LGoldHeaps$LostTable;") (by decide +kernel)
  have cl_17 := hts (.classLink RX2 17 RX7) (by decide +kernel)
  have ins_X7 := hts (.instantiable RX7 1) (by decide +kernel)
  have ini_X7 := hts (.initialized RX7) (by decide +kernel)
  have in_X7 : ∀ w ∈ wsX70, w ∈ wsX2_init := by decide +kernel
  have im_X7_init := hts (.instanceMethod yX7_init) (by decide +kernel)
  have nl_19 := hK.2.1 (.methodLinkNest RX2 19 yX7_init "GoldHeaps") (by decide +kernel)
  have fl_20 := hts (.fieldLink RX2 20 "GoldHeaps$Judge" "timesGame" "LGoldHeaps$TimesGame;") (by decide +kernel)
  have cl_24 := hts (.classLink RX2 24 RX1) (by decide +kernel)
  have ins_X1 := hts (.instantiable RX1 1) (by decide +kernel)
  have ini_X1 := hts (.initialized RX1) (by decide +kernel)
  have in_X1 : ∀ w ∈ wsX10, w ∈ wsX2_init := by decide +kernel
  have im_X1_init := hts (.instanceMethod yX1_init) (by decide +kernel)
  have ml_30 := hts (.methodLink RX2 30 yX1_init) (by decide +kernel)
  have fl_33 := hts (.fieldLink RX2 33 "GoldHeaps$Judge" "golden" "LGoldHeaps$Golden;") (by decide +kernel)
  have cl_37 := hts (.classLink RX2 37 RX5) (by decide +kernel)
  have ins_X5 := hts (.instantiable RX5 1) (by decide +kernel)
  have ini_X5 := hts (.initialized RX5) (by decide +kernel)
  have in_X5 : ∀ w ∈ wsX50, w ∈ wsX2_init := by decide +kernel
  have im_X5_init := hts (.instanceMethod yX5_init) (by decide +kernel)
  have ml_39 := hts (.methodLink RX2 39 yX5_init) (by decide +kernel)
  have fl_42 := hts (.fieldLink RX2 42 "GoldHeaps$Judge" "sharesGame" "LGoldHeaps$SharesGame;") (by decide +kernel)
  have cl_46 := hts (.classLink RX2 46 RX0) (by decide +kernel)
  have ins_X0 := hts (.instantiable RX0 1) (by decide +kernel)
  have ini_X0 := hts (.initialized RX0) (by decide +kernel)
  have in_X0 : ∀ w ∈ wsX00, w ∈ wsX2_init := by decide +kernel
  have im_X0_init := hts (.instanceMethod yX0_init) (by decide +kernel)
  have ml_48 := hts (.methodLink RX2 48 yX0_init) (by decide +kernel)
  have fl_49 := hts (.fieldLink RX2 49 "GoldHeaps$Judge" "bothGame" "LGoldHeaps$BothGame;") (by decide +kernel)
  refine lv_aload_n hx hb dX2_init_0 rfl (lv_at hl 0 rfl) ?_
  refine W.objInit hx hb hown ob_l ob_i ob_c rfl (by rw [hml]; exact hl.1) rfl dX2_init_1 (Nat.le_of_ble_eq_true rfl) (Nat.le_of_ble_eq_true rfl) ?_
  refine W.eq (g2 := F0 m 4 ls []) rfl ?_
  refine lv_aload_n hx hb dX2_init_4 rfl (lv_at hl 0 rfl) ?_
  refine lv_bipush (v := 8) hx hb dX2_init_5 (by decide) ?_
  have hho := hh
  refine m_newq 4 rfl hx hb hown cl_9 hK.2.2.2 hK hh (N' := 8) (by decide +kernel) (by decide +kernel) (by decide +kernel) (Nat.le_of_ble_eq_true rfl) (Nat.le_of_ble_eq_true rfl) dX2_init_7 (fun TM M1 H1 hq e1 hh => ?_)
  have hkp := hkp.new hM hq e1
  have hf_TM : M TM = none := by rw [hq]; exact hho.new0 hM_0
  have hJ := mu_kp e1 (by rw [hq]; exact hM.ne hJ) hJ
  have hTM := mu_at e1
  have hTM : M1 TM = some (.inl (cA 4, 8, .inr (.inr (.inr (.inr (fun _ => none)))))) := hTM
  have hM := hh.1
  refine W.widen (k := 1) (n := 8) (by decide) (by decide) ?_
  refine m_putF (ci := 2) (C := RX2) (T := TX2) (N := 5) (v := .ref TM) hx hb hts in_X2 tyX2 tyX2_ok nmX2 hown hK hh hJ rfl 4 (by decide) fl_11 (fun _ h => h) rfl hin rfl (ty := tyX2 4) (by decide +kernel) (rfl) (rfl) (Nat.le_of_ble_eq_true rfl) dX2_init_10 (fun M1 H1 locs1 e1 hh => ?_)
  have hTM := mu_kp e1 (mp_ne hTM hJ (by simp)) hTM
  have hJ := mu_at e1
  have hkp := hkp.put e1 (by simp)
  have hJ : M1 J = some (.inr (2, [.null, .null, .null, .null, .ref TM])) := hJ
  have hM := hh.1
  refine lv_aload_n hx hb dX2_init_13 rfl (lv_at hl 0 rfl) ?_
  have hho := hh
  refine m_new (ci := 7) (fs := [.null]) (C := RX7) (T := TX7) (N := 1) hx hb hts in_X7 tyX7 tyX7_ok hown cl_17 ins_X7 ini_X7 hK hh rfl (fun j hj => by rcases (show j = 0 by omega) with rfl <;> rfl) (by decide) (by decide) dX2_init_14 (fun TG M1 H1 hq e1 hh => ?_)
  have hkp := hkp.new hM hq e1
  have hf_TG : M TG = none := by rw [hq]; exact hho.new0 hM_0
  have hJ := mu_kp e1 (by rw [hq]; exact hM.ne hJ) hJ
  have hTM := mu_kp e1 (by rw [hq]; exact hM.ne hTM) hTM
  have hTG := mu_at e1
  have hTG : M1 TG = some (.inr (7, [.null])) := hTG
  have hM := hh.1
  refine W.widen (k := 2) (n := 9) (by decide) (by decide) ?_
  refine lv_dup hx hb dX2_init_17 rfl ?_
  refine cmIN (As := []) (rest := [.ref TG, .ref J]) (k_X7_init l D cA _ TG hTG) ⟨hx, hb, hml, hown, hts⟩ ⟨va_cnB 0 hts gX2_init_X7_init_n19 rfl rfl rfl nl_19 ini_X7 (by decide +kernel) ⟨by decide, by decide⟩, rfl, im_X7_init⟩ hK hh rfl hl.1 rfl (Nat.le_of_ble_eq_true rfl) dX2_init_18 ⟨by decide, by decide⟩ (fun v9 M1 H1 locs1 hpost hh hz9 hk9 hn9 => ?_)
  obtain ⟨rfl, ⟨SM, hTG1, hW, hfs⟩, hkc⟩ := hpost
  have hfS : M SM = none := hkp.nn hJ hfs
  have hkp := hkp.callN hkc hf_TG
  have hJ : M1 J = some (.inr (2, [.null, .null, .null, .null, .ref TM])) := hkc.k1 hTG hJ (by simp)
  have hTM : M1 TM = some (.inl (cA 4, 8, .inr (.inr (.inr (.inr (fun _ => none)))))) := hkc.k1 hTG hTM (by simp)
  have hTG : M1 TG = some (.inr (7, [.ref SM])) := hTG1
  have hM := hh.1
  refine W.widen (k := 3) (n := 19) (by decide) (by decide) ?_
  refine W.eq (g2 := F0 m 21 ls [.ref TG, .ref J]) rfl ?_
  refine m_putF (ci := 2) (C := RX2) (T := TX2) (N := 5) (v := .ref TG) hx hb hts in_X2 tyX2 tyX2_ok nmX2 hown hK hh hJ rfl 0 (by decide) fl_20 (fun _ h => h) rfl hin rfl (ty := tyX2 0) (by decide +kernel) (rfl) (rfl) (Nat.le_of_ble_eq_true rfl) dX2_init_21 (fun M1 H1 locs1 e1 hh => ?_)
  have hW := hW.p1 (k := 2) e1 hJ (Or.inl ⟨_, rfl⟩) (by decide) trivial
  have hTM := mu_kp e1 (mp_ne hTM hJ (by simp)) hTM
  have hTG := mu_kp e1 (mp_ne hTG hJ (by simp)) hTG
  have hJ := mu_at e1
  have hkp := hkp.put e1 (by simp)
  have hJ : M1 J = some (.inr (2, [.ref TG, .null, .null, .null, .ref TM])) := hJ
  have hM := hh.1
  refine lv_aload_n hx hb dX2_init_24 rfl (lv_at hl 0 rfl) ?_
  have hho := hh
  refine m_new (ci := 1) (fs := [.null]) (C := RX1) (T := TX1) (N := 1) hx hb hts in_X1 tyX1 tyX1_ok hown cl_24 ins_X1 ini_X1 hK hh rfl (fun j hj => by rcases (show j = 0 by omega) with rfl <;> rfl) (by decide) (by decide) dX2_init_25 (fun GO M1 H1 hq e1 hh => ?_)
  have hkp := hkp.new hM hq e1
  have hf_GO : M GO = none := by rw [hq]; exact hho.new0 hM_0
  have hW := hW.n1 e1 (by rw [hq]; exact hM.fresh)
  have hJ := mu_kp e1 (by rw [hq]; exact hM.ne hJ) hJ
  have hTM := mu_kp e1 (by rw [hq]; exact hM.ne hTM) hTM
  have hTG := mu_kp e1 (by rw [hq]; exact hM.ne hTG) hTG
  have hGO := mu_at e1
  have hGO : M1 GO = some (.inr (1, [.null])) := hGO
  have hM := hh.1
  refine W.widen (k := 4) (n := 20) (by decide) (by decide) ?_
  refine lv_dup hx hb dX2_init_28 rfl ?_
  refine lv_aload_n hx hb dX2_init_29 rfl (lv_at hl 0 rfl) ?_
  refine m_get (ci := 2) (C := RX2) (T := TX2) (N := 5) (v := .ref TG) hx hb hts in_X2 hown hK hM hJ rfl 0 (by decide) fl_20 (fun _ h => h) rfl dX2_init_30 ?_
  refine lv_iconst (v := 2) hx hb dX2_init_33 (by decide) ?_
  refine tpi (x' := nI 2) (rfl) ?_
  refine cmV (As := [.int (nI 2)]) (rest := [.ref GO, .ref GO, .ref J]) (k_X7_sumsBy l D cA _ TG SM 2 hTG hW (by decide) (by decide)) ⟨hx, hb, hml, hown, hts⟩ (cwV 1 hts gX2_init_X7_sumsBy rfl rfl rfl (by decide +kernel) ⟨by decide, by decide⟩) hK hh hTG rfl rfl hl.1 rfl (Nat.le_of_ble_eq_true rfl) dX2_init_34 ⟨by decide, by decide⟩ (fun v9 M1 H1 locs1 hpost hh hz9 hk9 hn9 => ?_)
  obtain ⟨⟨s2, rfl, n0, f, hS21, hN01, hff⟩, hW1, hkc⟩ := hpost
  obtain ⟨fs0, hSM, -⟩ := id hW
  have hkp := hkp.callN hkc hfS
  have hW := hW1
  have hJ : M1 J = some (.inr (2, [.ref TG, .null, .null, .null, .ref TM])) := hkc.k1 hSM hJ (by simp)
  have hTM : M1 TM = some (.inl (cA 4, 8, .inr (.inr (.inr (.inr (fun _ => none)))))) := hkc.k1 hSM hTM (by simp)
  have hTG : M1 TG = some (.inr (7, [.ref SM])) := hkc.k1 hSM hTG (by simp)
  have hGO : M1 GO = some (.inr (1, [.null])) := hkc.k1 hSM hGO (by simp)
  have hS2 : M1 s2 = some (.inr (6, [.ref n0, .int (nI (rsz 2))])) := hS21
  have hN0 : M1 n0 = some (.inl (cA 0, 240, .inr (.inl f))) := hN01
  have hM := hh.1
  refine W.widen (k := 7) (n := 262) (by decide) (by decide) ?_
  refine W.eq (g2 := F0 m 37 ls [.ref s2, .ref GO, .ref GO, .ref J]) rfl ?_
  refine cmI (As := [.ref s2]) (rest := [.ref GO, .ref J]) (k_X1_init l D cA _ GO s2 hGO) ⟨hx, hb, hml, hown, hts⟩ (cwI 1 hts gX2_init_X1_init rfl rfl rfl ini_X1 ml_30 im_X1_init rfl (by decide +kernel) ⟨by decide, by decide⟩) hK hh rfl hl.1 rfl (Nat.le_of_ble_eq_true rfl) dX2_init_37 ⟨by decide, by decide⟩ (fun v9 M1 H1 locs1 hpost hh hz9 hk9 hn9 => ?_)
  obtain ⟨rfl, hC1, hkc⟩ := hpost
  have hW := hW.l1 (k := 1) hkc hGO (Or.inl ⟨_, rfl⟩) (by decide) trivial
  have hkp := hkp.callN hkc hf_GO
  have hJ : M1 J = some (.inr (2, [.ref TG, .null, .null, .null, .ref TM])) := hkc.k1 hGO hJ (by simp)
  have hTM : M1 TM = some (.inl (cA 4, 8, .inr (.inr (.inr (.inr (fun _ => none)))))) := hkc.k1 hGO hTM (by simp)
  have hTG : M1 TG = some (.inr (7, [.ref SM])) := hkc.k1 hGO hTG (by simp)
  have hS2 : M1 s2 = some (.inr (6, [.ref n0, .int (nI (rsz 2))])) := hkc.k1 hGO hS2 (by simp)
  have hN0 : M1 n0 = some (.inl (cA 0, 240, .inr (.inl f))) := hkc.k1 hGO hN0 (by simp)
  have hGO : M1 GO = some (.inr (1, [.ref s2])) := hC1
  have hM := hh.1
  refine W.eq (g2 := F0 m 40 ls [.ref GO, .ref J]) rfl ?_
  refine m_putF (ci := 2) (C := RX2) (T := TX2) (N := 5) (v := .ref GO) hx hb hts in_X2 tyX2 tyX2_ok nmX2 hown hK hh hJ rfl 1 (by decide) fl_33 (fun _ h => h) rfl hin rfl (ty := tyX2 1) (by decide +kernel) (rfl) (rfl) (Nat.le_of_ble_eq_true rfl) dX2_init_40 (fun M1 H1 locs1 e1 hh => ?_)
  have hW := hW.p1 (k := 2) e1 hJ (Or.inl ⟨_, rfl⟩) (by decide) trivial
  have hTM := mu_kp e1 (mp_ne hTM hJ (by simp)) hTM
  have hTG := mu_kp e1 (mp_ne hTG hJ (by simp)) hTG
  have hS2 := mu_kp e1 (mp_ne hS2 hJ (by simp)) hS2
  have hN0 := mu_kp e1 (mp_ne hN0 hJ (by simp)) hN0
  have hGO := mu_kp e1 (mp_ne hGO hJ (by simp)) hGO
  have hJ := mu_at e1
  have hkp := hkp.put e1 (by simp)
  have hJ : M1 J = some (.inr (2, [.ref TG, .ref GO, .null, .null, .ref TM])) := hJ
  have hM := hh.1
  refine lv_aload_n hx hb dX2_init_43 rfl (lv_at hl 0 rfl) ?_
  have hho := hh
  refine m_new (ci := 5) (fs := [.null]) (C := RX5) (T := TX5) (N := 1) hx hb hts in_X5 tyX5 tyX5_ok hown cl_37 ins_X5 ini_X5 hK hh rfl (fun j hj => by rcases (show j = 0 by omega) with rfl <;> rfl) (by decide) (by decide) dX2_init_44 (fun SG M1 H1 hq e1 hh => ?_)
  have hkp := hkp.new hM hq e1
  have hf_SG : M SG = none := by rw [hq]; exact hho.new0 hM_0
  have hW := hW.n1 e1 (by rw [hq]; exact hM.fresh)
  have hJ := mu_kp e1 (by rw [hq]; exact hM.ne hJ) hJ
  have hTM := mu_kp e1 (by rw [hq]; exact hM.ne hTM) hTM
  have hTG := mu_kp e1 (by rw [hq]; exact hM.ne hTG) hTG
  have hS2 := mu_kp e1 (by rw [hq]; exact hM.ne hS2) hS2
  have hN0 := mu_kp e1 (by rw [hq]; exact hM.ne hN0) hN0
  have hGO := mu_kp e1 (by rw [hq]; exact hM.ne hGO) hGO
  have hSG := mu_at e1
  have hSG : M1 SG = some (.inr (5, [.null])) := hSG
  have hM := hh.1
  refine W.widen (k := 8) (n := 263) (by decide) (by decide) ?_
  refine lv_dup hx hb dX2_init_47 rfl ?_
  refine lv_aload_n hx hb dX2_init_48 rfl (lv_at hl 0 rfl) ?_
  refine m_get (ci := 2) (C := RX2) (T := TX2) (N := 5) (v := .ref GO) hx hb hts in_X2 hown hK hM hJ rfl 1 (by decide) fl_33 (fun _ h => h) rfl dX2_init_49 ?_
  refine cmI (As := [.ref GO]) (rest := [.ref SG, .ref J]) (k_X5_init l D cA _ SG GO hSG) ⟨hx, hb, hml, hown, hts⟩ (cwI 1 hts gX2_init_X5_init rfl rfl rfl ini_X5 ml_39 im_X5_init rfl (by decide +kernel) ⟨by decide, by decide⟩) hK hh rfl hl.1 rfl (Nat.le_of_ble_eq_true rfl) dX2_init_52 ⟨by decide, by decide⟩ (fun v9 M1 H1 locs1 hpost hh hz9 hk9 hn9 => ?_)
  obtain ⟨rfl, hC1, hkc⟩ := hpost
  have hW := hW.l1 (k := 5) hkc hSG (Or.inl ⟨_, rfl⟩) (by decide) trivial
  have hkp := hkp.callN hkc hf_SG
  have hJ : M1 J = some (.inr (2, [.ref TG, .ref GO, .null, .null, .ref TM])) := hkc.k1 hSG hJ (by simp)
  have hTM : M1 TM = some (.inl (cA 4, 8, .inr (.inr (.inr (.inr (fun _ => none)))))) := hkc.k1 hSG hTM (by simp)
  have hTG : M1 TG = some (.inr (7, [.ref SM])) := hkc.k1 hSG hTG (by simp)
  have hS2 : M1 s2 = some (.inr (6, [.ref n0, .int (nI (rsz 2))])) := hkc.k1 hSG hS2 (by simp)
  have hN0 : M1 n0 = some (.inl (cA 0, 240, .inr (.inl f))) := hkc.k1 hSG hN0 (by simp)
  have hGO : M1 GO = some (.inr (1, [.ref s2])) := hkc.k1 hSG hGO (by simp)
  have hSG : M1 SG = some (.inr (5, [.ref GO])) := hC1
  have hM := hh.1
  refine W.eq (g2 := F0 m 55 ls [.ref SG, .ref J]) rfl ?_
  refine m_putF (ci := 2) (C := RX2) (T := TX2) (N := 5) (v := .ref SG) hx hb hts in_X2 tyX2 tyX2_ok nmX2 hown hK hh hJ rfl 2 (by decide) fl_42 (fun _ h => h) rfl hin rfl (ty := tyX2 2) (by decide +kernel) (rfl) (rfl) (Nat.le_of_ble_eq_true rfl) dX2_init_55 (fun M1 H1 locs1 e1 hh => ?_)
  have hW := hW.p1 (k := 2) e1 hJ (Or.inl ⟨_, rfl⟩) (by decide) trivial
  have hTM := mu_kp e1 (mp_ne hTM hJ (by simp)) hTM
  have hTG := mu_kp e1 (mp_ne hTG hJ (by simp)) hTG
  have hS2 := mu_kp e1 (mp_ne hS2 hJ (by simp)) hS2
  have hN0 := mu_kp e1 (mp_ne hN0 hJ (by simp)) hN0
  have hGO := mu_kp e1 (mp_ne hGO hJ (by simp)) hGO
  have hSG := mu_kp e1 (mp_ne hSG hJ (by simp)) hSG
  have hJ := mu_at e1
  have hkp := hkp.put e1 (by simp)
  have hJ : M1 J = some (.inr (2, [.ref TG, .ref GO, .ref SG, .null, .ref TM])) := hJ
  have hM := hh.1
  refine lv_aload_n hx hb dX2_init_58 rfl (lv_at hl 0 rfl) ?_
  have hho := hh
  refine m_new (ci := 0) (fs := [.null]) (C := RX0) (T := TX0) (N := 1) hx hb hts in_X0 tyX0 tyX0_ok hown cl_46 ins_X0 ini_X0 hK hh rfl (fun j hj => by rcases (show j = 0 by omega) with rfl <;> rfl) (by decide) (by decide) dX2_init_59 (fun BG M1 H1 hq e1 hh => ?_)
  have hkp := hkp.new hM hq e1
  have hf_BG : M BG = none := by rw [hq]; exact hho.new0 hM_0
  have hW := hW.n1 e1 (by rw [hq]; exact hM.fresh)
  have hJ := mu_kp e1 (by rw [hq]; exact hM.ne hJ) hJ
  have hTM := mu_kp e1 (by rw [hq]; exact hM.ne hTM) hTM
  have hTG := mu_kp e1 (by rw [hq]; exact hM.ne hTG) hTG
  have hS2 := mu_kp e1 (by rw [hq]; exact hM.ne hS2) hS2
  have hN0 := mu_kp e1 (by rw [hq]; exact hM.ne hN0) hN0
  have hGO := mu_kp e1 (by rw [hq]; exact hM.ne hGO) hGO
  have hSG := mu_kp e1 (by rw [hq]; exact hM.ne hSG) hSG
  have hBG := mu_at e1
  have hBG : M1 BG = some (.inr (0, [.null])) := hBG
  have hM := hh.1
  refine W.widen (k := 9) (n := 264) (by decide) (by decide) ?_
  refine lv_dup hx hb dX2_init_62 rfl ?_
  refine lv_aload_n hx hb dX2_init_63 rfl (lv_at hl 0 rfl) ?_
  refine m_get (ci := 2) (C := RX2) (T := TX2) (N := 5) (v := .ref GO) hx hb hts in_X2 hown hK hM hJ rfl 1 (by decide) fl_33 (fun _ h => h) rfl dX2_init_64 ?_
  refine cmI (As := [.ref GO]) (rest := [.ref BG, .ref J]) (k_X0_init l D cA _ BG GO hBG) ⟨hx, hb, hml, hown, hts⟩ (cwI 1 hts gX2_init_X0_init rfl rfl rfl ini_X0 ml_48 im_X0_init rfl (by decide +kernel) ⟨by decide, by decide⟩) hK hh rfl hl.1 rfl (Nat.le_of_ble_eq_true rfl) dX2_init_67 ⟨by decide, by decide⟩ (fun v9 M1 H1 locs1 hpost hh hz9 hk9 hn9 => ?_)
  obtain ⟨rfl, hC1, hkc⟩ := hpost
  have hW := hW.l1 (k := 0) hkc hBG (Or.inl ⟨_, rfl⟩) (by decide) trivial
  have hkp := hkp.callN hkc hf_BG
  have hJ : M1 J = some (.inr (2, [.ref TG, .ref GO, .ref SG, .null, .ref TM])) := hkc.k1 hBG hJ (by simp)
  have hTM : M1 TM = some (.inl (cA 4, 8, .inr (.inr (.inr (.inr (fun _ => none)))))) := hkc.k1 hBG hTM (by simp)
  have hTG : M1 TG = some (.inr (7, [.ref SM])) := hkc.k1 hBG hTG (by simp)
  have hS2 : M1 s2 = some (.inr (6, [.ref n0, .int (nI (rsz 2))])) := hkc.k1 hBG hS2 (by simp)
  have hN0 : M1 n0 = some (.inl (cA 0, 240, .inr (.inl f))) := hkc.k1 hBG hN0 (by simp)
  have hGO : M1 GO = some (.inr (1, [.ref s2])) := hkc.k1 hBG hGO (by simp)
  have hSG : M1 SG = some (.inr (5, [.ref GO])) := hkc.k1 hBG hSG (by simp)
  have hBG : M1 BG = some (.inr (0, [.ref GO])) := hC1
  have hM := hh.1
  refine W.eq (g2 := F0 m 70 ls [.ref BG, .ref J]) rfl ?_
  refine m_putF (ci := 2) (C := RX2) (T := TX2) (N := 5) (v := .ref BG) hx hb hts in_X2 tyX2 tyX2_ok nmX2 hown hK hh hJ rfl 3 (by decide) fl_49 (fun _ h => h) rfl hin rfl (ty := tyX2 3) (by decide +kernel) (rfl) (rfl) (Nat.le_of_ble_eq_true rfl) dX2_init_70 (fun M1 H1 locs1 e1 hh => ?_)
  have hW := hW.p1 (k := 2) e1 hJ (Or.inl ⟨_, rfl⟩) (by decide) trivial
  have hTM := mu_kp e1 (mp_ne hTM hJ (by simp)) hTM
  have hTG := mu_kp e1 (mp_ne hTG hJ (by simp)) hTG
  have hS2 := mu_kp e1 (mp_ne hS2 hJ (by simp)) hS2
  have hN0 := mu_kp e1 (mp_ne hN0 hJ (by simp)) hN0
  have hGO := mu_kp e1 (mp_ne hGO hJ (by simp)) hGO
  have hSG := mu_kp e1 (mp_ne hSG hJ (by simp)) hSG
  have hBG := mu_kp e1 (mp_ne hBG hJ (by simp)) hBG
  have hJ := mu_at e1
  have hkp := hkp.put e1 (by simp)
  have hJ : M1 J = some (.inr (2, [.ref TG, .ref GO, .ref SG, .ref BG, .ref TM])) := hJ
  have hM := hh.1
  exact hretv _ _ _ _ _ _ _ hh (⟨rfl, ⟨TG, GO, SG, BG, TM, SM, ⟨hJ, hSG, hBG, s2, n0, f, hGO, hS2, hN0, hff⟩, hTG, hW, tmW.no hTM⟩, hkp⟩) (by decide) (by decide) dX2_init_73 rfl
set_option maxHeartbeats 1000000 in
set_option maxRecDepth 100000 in
theorem k_X4_init (l : Launch) (D : va_G) (cA : Nat → ClassId) (M : mp) (P J : Nat)  (hP : M P = some (.inr (4, [.null, .null, .null, .null, .null, .int 0, .int 0, .int 0, .int 0])))  : MC l D cA yX4_init wsX4_init 1 20 4 603 [.ref P, .ref J] M (fun r M' => r = none ∧ (∃ PH WM MT WF, pw cA M' P J PH WM MT WF 1 0 0 false (fun _ => 0) (fun _ => 0) (fun _ => 0) (fun _ => false)) ∧ kpL M M' [P]) := by
  refine MC.of (cc := cX4_init) (maxL := 2) (ret := none) (by decide) rfl (Nat.le_of_ble_eq_true rfl) ?_
  intro p e s m args below meth c Q ls B hh hl hretv hreti hretz hretl hreta
  obtain ⟨hx, hb, hown, hts, hml, hK, hin⟩ := B
  have hM := hh.1
  have hM_0 := hh.1
  have hkp : kpL M M [P] := kpL.rf M _
  have hown : s.vm.findClass RX4 = some m.cls := hown
  have hl : lv_has ls 2 [(0, .ref P), (1, .ref J)] := hl
  have ob_l := hts (.methodLink RX4 3 objectInit) (by decide +kernel)
  have ob_i := hts (.instanceMethod objectInit) (by decide +kernel)
  have ob_c := hts (.code objectInit ⟨#[0xb1]⟩ 1 none) (by decide +kernel)
  have ac_long := hts (.arrayClass .long) (by decide +kernel)
  have in_X4 : ∀ w ∈ wsX40, w ∈ wsX4_init := by decide +kernel
  have fl_11 := hts (.fieldLink RX4 11 "GoldHeaps$Play" "heaps" "[J") (by decide +kernel)
  have ac_int := hts (.arrayClass .int) (by decide +kernel)
  have fl_15 := hts (.fieldLink RX4 15 "GoldHeaps$Play" "whichMoved" "[I") (by decide +kernel)
  have fl_19 := hts (.fieldLink RX4 19 "GoldHeaps$Play" "manyTaken" "[J") (by decide +kernel)
  have ac_boolean := hts (.arrayClass .boolean) (by decide +kernel)
  have fl_22 := hts (.fieldLink RX4 22 "GoldHeaps$Play" "wasFault" "[Z") (by decide +kernel)
  have fl_26 := hts (.fieldLink RX4 26 "GoldHeaps$Play" "game" "I") (by decide +kernel)
  have fl_30 := hts (.fieldLink RX4 30 "GoldHeaps$Play" "judge" "LGoldHeaps$Judge;") (by decide +kernel)
  refine lv_aload_n hx hb dX4_init_0 rfl (lv_at hl 0 rfl) ?_
  refine W.objInit hx hb hown ob_l ob_i ob_c rfl (by rw [hml]; exact hl.1) rfl dX4_init_1 (Nat.le_of_ble_eq_true rfl) (Nat.le_of_ble_eq_true rfl) ?_
  refine W.eq (g2 := F0 m 4 ls []) rfl ?_
  refine lv_aload_n hx hb dX4_init_4 rfl (lv_at hl 0 rfl) ?_
  refine lv_iconst (v := 3) hx hb dX4_init_5 (by decide) ?_
  have hho := hh
  refine m_newa 0 rfl (atype := .long) hx hb (ty := .long) ac_long rfl hK hh (N' := 3) (a0 := (3, (.inr (.inl (fun _ => (0 : Int64)))))) (cellJ0 3) (by decide +kernel) (by decide +kernel) (by decide +kernel) (Nat.le_of_ble_eq_true rfl) (Nat.le_of_ble_eq_true rfl) dX4_init_6 (fun PH M1 H1 hq e1 hh => ?_)
  have hkp := hkp.new hM hq e1
  have hf_PH : M PH = none := by rw [hq]; exact hho.new0 hM_0
  have hP := mu_kp e1 (by rw [hq]; exact hM.ne hP) hP
  have hPH := mu_at e1
  have hPH : M1 PH = some (.inl (cA 0, 3, .inr (.inl (fun _ => (0 : Int64))))) := hPH
  have hM := hh.1
  refine W.widen (k := 1) (n := 3) (by decide) (by decide) ?_
  refine m_putF (ci := 4) (C := RX4) (T := TX4) (N := 9) (v := .ref PH) hx hb hts in_X4 tyX4 tyX4_ok nmX4 hown hK hh hP rfl 1 (by decide) fl_11 (fun _ h => h) rfl hin rfl (ty := tyX4 1) (by decide +kernel) (rfl) (rfl) (Nat.le_of_ble_eq_true rfl) dX4_init_8 (fun M1 H1 locs1 e1 hh => ?_)
  have hPH := mu_kp e1 (mp_ne hPH hP (by simp)) hPH
  have hP := mu_at e1
  have hkp := hkp.put e1 (by simp)
  have hP : M1 P = some (.inr (4, [.null, .ref PH, .null, .null, .null, .int 0, .int 0, .int 0, .int 0])) := hP
  have hM := hh.1
  refine lv_aload_n hx hb dX4_init_11 rfl (lv_at hl 0 rfl) ?_
  refine lv_sipush (v := 200) hx hb dX4_init_12 (by decide) ?_
  have hho := hh
  refine m_newa 1 rfl (atype := .int) hx hb (ty := .int) ac_int rfl hK hh (N' := 200) (a0 := (200, (.inl (fun _ => (0 : Int32))))) (cellI0 200) (by decide +kernel) (by decide +kernel) (by decide +kernel) (Nat.le_of_ble_eq_true rfl) (Nat.le_of_ble_eq_true rfl) dX4_init_15 (fun WM M1 H1 hq e1 hh => ?_)
  have hkp := hkp.new hM hq e1
  have hf_WM : M WM = none := by rw [hq]; exact hho.new0 hM_0
  have hP := mu_kp e1 (by rw [hq]; exact hM.ne hP) hP
  have hPH := mu_kp e1 (by rw [hq]; exact hM.ne hPH) hPH
  have hWM := mu_at e1
  have hWM : M1 WM = some (.inl (cA 1, 200, .inl (fun _ => (0 : Int32)))) := hWM
  have hM := hh.1
  refine W.widen (k := 2) (n := 203) (by decide) (by decide) ?_
  refine m_putF (ci := 4) (C := RX4) (T := TX4) (N := 9) (v := .ref WM) hx hb hts in_X4 tyX4 tyX4_ok nmX4 hown hK hh hP rfl 2 (by decide) fl_15 (fun _ h => h) rfl hin rfl (ty := tyX4 2) (by decide +kernel) (rfl) (rfl) (Nat.le_of_ble_eq_true rfl) dX4_init_17 (fun M1 H1 locs1 e1 hh => ?_)
  have hPH := mu_kp e1 (mp_ne hPH hP (by simp)) hPH
  have hWM := mu_kp e1 (mp_ne hWM hP (by simp)) hWM
  have hP := mu_at e1
  have hkp := hkp.put e1 (by simp)
  have hP : M1 P = some (.inr (4, [.null, .ref PH, .ref WM, .null, .null, .int 0, .int 0, .int 0, .int 0])) := hP
  have hM := hh.1
  refine lv_aload_n hx hb dX4_init_20 rfl (lv_at hl 0 rfl) ?_
  refine lv_sipush (v := 200) hx hb dX4_init_21 (by decide) ?_
  have hho := hh
  refine m_newa 0 rfl (atype := .long) hx hb (ty := .long) ac_long rfl hK hh (N' := 200) (a0 := (200, (.inr (.inl (fun _ => (0 : Int64)))))) (cellJ0 200) (by decide +kernel) (by decide +kernel) (by decide +kernel) (Nat.le_of_ble_eq_true rfl) (Nat.le_of_ble_eq_true rfl) dX4_init_24 (fun MT M1 H1 hq e1 hh => ?_)
  have hkp := hkp.new hM hq e1
  have hf_MT : M MT = none := by rw [hq]; exact hho.new0 hM_0
  have hP := mu_kp e1 (by rw [hq]; exact hM.ne hP) hP
  have hPH := mu_kp e1 (by rw [hq]; exact hM.ne hPH) hPH
  have hWM := mu_kp e1 (by rw [hq]; exact hM.ne hWM) hWM
  have hMT := mu_at e1
  have hMT : M1 MT = some (.inl (cA 0, 200, .inr (.inl (fun _ => (0 : Int64))))) := hMT
  have hM := hh.1
  refine W.widen (k := 3) (n := 403) (by decide) (by decide) ?_
  refine m_putF (ci := 4) (C := RX4) (T := TX4) (N := 9) (v := .ref MT) hx hb hts in_X4 tyX4 tyX4_ok nmX4 hown hK hh hP rfl 3 (by decide) fl_19 (fun _ h => h) rfl hin rfl (ty := tyX4 3) (by decide +kernel) (rfl) (rfl) (Nat.le_of_ble_eq_true rfl) dX4_init_26 (fun M1 H1 locs1 e1 hh => ?_)
  have hPH := mu_kp e1 (mp_ne hPH hP (by simp)) hPH
  have hWM := mu_kp e1 (mp_ne hWM hP (by simp)) hWM
  have hMT := mu_kp e1 (mp_ne hMT hP (by simp)) hMT
  have hP := mu_at e1
  have hkp := hkp.put e1 (by simp)
  have hP : M1 P = some (.inr (4, [.null, .ref PH, .ref WM, .ref MT, .null, .int 0, .int 0, .int 0, .int 0])) := hP
  have hM := hh.1
  refine lv_aload_n hx hb dX4_init_29 rfl (lv_at hl 0 rfl) ?_
  refine lv_sipush (v := 200) hx hb dX4_init_30 (by decide) ?_
  have hho := hh
  refine m_newa 2 rfl (atype := .boolean) hx hb (ty := .boolean) ac_boolean rfl hK hh (N' := 200) (a0 := (200, (.inl (fun _ => (0 : Int32))))) (cellZ0 200) (by decide +kernel) (by decide +kernel) (by decide +kernel) (Nat.le_of_ble_eq_true rfl) (Nat.le_of_ble_eq_true rfl) dX4_init_33 (fun WF M1 H1 hq e1 hh => ?_)
  have hkp := hkp.new hM hq e1
  have hf_WF : M WF = none := by rw [hq]; exact hho.new0 hM_0
  have hne : WM ≠ WF := by rw [hq]; exact hM.ne hWM
  have hP := mu_kp e1 (by rw [hq]; exact hM.ne hP) hP
  have hPH := mu_kp e1 (by rw [hq]; exact hM.ne hPH) hPH
  have hWM := mu_kp e1 (by rw [hq]; exact hM.ne hWM) hWM
  have hMT := mu_kp e1 (by rw [hq]; exact hM.ne hMT) hMT
  have hWF := mu_at e1
  have hWF : M1 WF = some (.inl (cA 2, 200, .inl (fun _ => (0 : Int32)))) := hWF
  have hM := hh.1
  refine W.widen (k := 4) (n := 603) (by decide) (by decide) ?_
  refine m_putF (ci := 4) (C := RX4) (T := TX4) (N := 9) (v := .ref WF) hx hb hts in_X4 tyX4 tyX4_ok nmX4 hown hK hh hP rfl 4 (by decide) fl_22 (fun _ h => h) rfl hin rfl (ty := tyX4 4) (by decide +kernel) (rfl) (rfl) (Nat.le_of_ble_eq_true rfl) dX4_init_35 (fun M1 H1 locs1 e1 hh => ?_)
  have hPH := mu_kp e1 (mp_ne hPH hP (by simp)) hPH
  have hWM := mu_kp e1 (mp_ne hWM hP (by simp)) hWM
  have hMT := mu_kp e1 (mp_ne hMT hP (by simp)) hMT
  have hWF := mu_kp e1 (mp_ne hWF hP (by simp)) hWF
  have hP := mu_at e1
  have hkp := hkp.put e1 (by simp)
  have hP : M1 P = some (.inr (4, [.null, .ref PH, .ref WM, .ref MT, .ref WF, .int 0, .int 0, .int 0, .int 0])) := hP
  have hM := hh.1
  refine lv_aload_n hx hb dX4_init_38 rfl (lv_at hl 0 rfl) ?_
  refine lv_iconst (v := 1) hx hb dX4_init_39 (by decide) ?_
  refine m_put (ci := 4) (C := RX4) (T := TX4) (N := 9) (v := .int 1) hx hb hts in_X4 tyX4 tyX4_ok nmX4 hown hK hh hP rfl 5 (by decide) fl_26 (fun _ h => h) rfl (ty := tyX4 5) (by decide +kernel) (rfl) (rfl) (Nat.le_of_ble_eq_true rfl) dX4_init_40 (fun M1 H1 locs1 e1 hh => ?_)
  have hPH := mu_kp e1 (mp_ne hPH hP (by simp)) hPH
  have hWM := mu_kp e1 (mp_ne hWM hP (by simp)) hWM
  have hMT := mu_kp e1 (mp_ne hMT hP (by simp)) hMT
  have hWF := mu_kp e1 (mp_ne hWF hP (by simp)) hWF
  have hP := mu_at e1
  have hkp := hkp.put e1 (by simp)
  have hP : M1 P = some (.inr (4, [.null, .ref PH, .ref WM, .ref MT, .ref WF, .int 1, .int 0, .int 0, .int 0])) := hP
  have hM := hh.1
  refine lv_aload_n hx hb dX4_init_43 rfl (lv_at hl 0 rfl) ?_
  refine lv_aload_n hx hb dX4_init_44 rfl (lv_at hl 1 rfl) ?_
  refine m_putF (ci := 4) (C := RX4) (T := TX4) (N := 9) (v := .ref J) hx hb hts in_X4 tyX4 tyX4_ok nmX4 hown hK hh hP rfl 0 (by decide) fl_30 (fun _ h => h) rfl hin rfl (ty := tyX4 0) (by decide +kernel) (rfl) (rfl) (Nat.le_of_ble_eq_true rfl) dX4_init_45 (fun M1 H1 locs1 e1 hh => ?_)
  have hPH := mu_kp e1 (mp_ne hPH hP (by simp)) hPH
  have hWM := mu_kp e1 (mp_ne hWM hP (by simp)) hWM
  have hMT := mu_kp e1 (mp_ne hMT hP (by simp)) hMT
  have hWF := mu_kp e1 (mp_ne hWF hP (by simp)) hWF
  have hP := mu_at e1
  have hkp := hkp.put e1 (by simp)
  have hP : M1 P = some (.inr (4, [.ref J, .ref PH, .ref WM, .ref MT, .ref WF, .int 1, .int 0, .int 0, .int 0])) := hP
  have hM := hh.1
  exact hretv _ _ _ _ _ _ _ hh (⟨rfl, ⟨PH, WM, MT, WF, _, _, _, _, hP, hPH, hWM, hMT, hWF, hne, fun _ _ => rfl, fun j hj => absurd hj (Nat.not_lt_zero _), fun j hj => absurd hj (Nat.not_lt_zero _), fun j hj => absurd hj (Nat.not_lt_zero _)⟩, hkp⟩) (by decide) (by decide) dX4_init_48 rfl
set_option maxHeartbeats 1000000 in
set_option maxRecDepth 100000 in
theorem k_X8_init (l : Launch) (D : va_G) (cA : Nat → ClassId) (M : mp) (x : Nat)  (hx0 : M x = some (.inr (8, [.null, .null])))  : MC l D cA yX8_init wsX8_init 4 88 15 881 [.ref x] M (fun r M' => r = none ∧ (∃ J P TG GO SG BG TM SM PH WM MT WF, M' x = some (.inr (8, [.ref J, .ref P])) ∧ jdW cA M' J TG GO SG BG TM SM ∧ pw cA M' P J PH WM MT WF 1 0 0 false (fun _ => 0) (fun _ => 0) (fun _ => 0) (fun _ => false)) ∧ kpL M M' [x]) := by
  refine MC.of (cc := cX8_init) (maxL := 1) (ret := none) (by decide) rfl (Nat.le_of_ble_eq_true rfl) ?_
  intro p e s m args below meth c Q ls B hh hl hretv hreti hretz hretl hreta
  obtain ⟨hx, hb, hown, hts, hml, hK, hin⟩ := B
  have hM := hh.1
  have hM_0 := hh.1
  have hkp : kpL M M [x] := kpL.rf M _
  have hown : s.vm.findClass RX8 = some m.cls := hown
  have hl : lv_has ls 1 [(0, .ref x)] := hl
  have ob_l := hts (.methodLink RX8 1 objectInit) (by decide +kernel)
  have ob_i := hts (.instanceMethod objectInit) (by decide +kernel)
  have ob_c := hts (.code objectInit ⟨#[0xb1]⟩ 1 none) (by decide +kernel)
  have cl_7 := hts (.classLink RX8 7 RX2) (by decide +kernel)
  have ins_X2 := hts (.instantiable RX2 5) (by decide +kernel)
  have ini_X2 := hts (.initialized RX2) (by decide +kernel)
  have in_X2 : ∀ w ∈ wsX20, w ∈ wsX8_init := by decide +kernel
  have im_X2_init := hts (.instanceMethod yX2_init) (by decide +kernel)
  have ml_9 := hts (.methodLink RX8 9 yX2_init) (by decide +kernel)
  have in_X8 : ∀ w ∈ wsX80, w ∈ wsX8_init := by decide +kernel
  have fl_10 := hts (.fieldLink RX8 10 "GoldHeaps" "judge" "LGoldHeaps$Judge;") (by decide +kernel)
  have cl_16 := hts (.classLink RX8 16 RX4) (by decide +kernel)
  have ins_X4 := hts (.instantiable RX4 9) (by decide +kernel)
  have ini_X4 := hts (.initialized RX4) (by decide +kernel)
  have in_X4 : ∀ w ∈ wsX40, w ∈ wsX8_init := by decide +kernel
  have im_X4_init := hts (.instanceMethod yX4_init) (by decide +kernel)
  have ml_18 := hts (.methodLink RX8 18 yX4_init) (by decide +kernel)
  have fl_21 := hts (.fieldLink RX8 21 "GoldHeaps" "play" "LGoldHeaps$Play;") (by decide +kernel)
  refine lv_aload_n hx hb dX8_init_0 rfl (lv_at hl 0 rfl) ?_
  refine W.objInit hx hb hown ob_l ob_i ob_c rfl (by rw [hml]; exact hl.1) rfl dX8_init_1 (Nat.le_of_ble_eq_true rfl) (Nat.le_of_ble_eq_true rfl) ?_
  refine W.eq (g2 := F0 m 4 ls []) rfl ?_
  refine lv_aload_n hx hb dX8_init_4 rfl (lv_at hl 0 rfl) ?_
  have hho := hh
  refine m_new (ci := 2) (fs := [.null, .null, .null, .null, .null]) (C := RX2) (T := TX2) (N := 5) hx hb hts in_X2 tyX2 tyX2_ok hown cl_7 ins_X2 ini_X2 hK hh rfl (fun j hj => by rcases (show j = 0 ∨ j = 1 ∨ j = 2 ∨ j = 3 ∨ j = 4 by omega) with rfl | rfl | rfl | rfl | rfl <;> rfl) (by decide) (by decide) dX8_init_5 (fun J M1 H1 hq e1 hh => ?_)
  have hkp := hkp.new hM hq e1
  have hf_J : M J = none := by rw [hq]; exact hho.new0 hM_0
  have hx0 := mu_kp e1 (by rw [hq]; exact hM.ne hx0) hx0
  have hJ := mu_at e1
  have hJ : M1 J = some (.inr (2, [.null, .null, .null, .null, .null])) := hJ
  have hM := hh.1
  refine W.widen (k := 1) (n := 5) (by decide) (by decide) ?_
  refine lv_dup hx hb dX8_init_8 rfl ?_
  refine cmI (As := []) (rest := [.ref J, .ref x]) (k_X2_init l D cA _ J hJ) ⟨hx, hb, hml, hown, hts⟩ (cwI 0 hts gX8_init_X2_init rfl rfl rfl ini_X2 ml_9 im_X2_init rfl (by decide +kernel) ⟨by decide, by decide⟩) hK hh rfl hl.1 rfl (Nat.le_of_ble_eq_true rfl) dX8_init_9 ⟨by decide, by decide⟩ (fun v9 M1 H1 locs1 hpost hh hz9 hk9 hn9 => ?_)
  obtain ⟨rfl, ⟨TG, GO, SG, BG, TM, SM, hJD⟩, hkc⟩ := hpost
  have hkp := hkp.callN hkc hf_J
  have hx0 : M1 x = some (.inr (8, [.null, .null])) := hkc.k1 hJ hx0 (by simp)
  have hM := hh.1
  refine W.widen (k := 10) (n := 269) (by decide) (by decide) ?_
  refine W.eq (g2 := F0 m 12 ls [.ref J, .ref x]) rfl ?_
  refine m_putF (ci := 8) (C := RX8) (T := TX8) (N := 2) (v := .ref J) hx hb hts in_X8 tyX8 tyX8_ok nmX8 hown hK hh hx0 rfl 0 (by decide) fl_10 (fun _ h => h) rfl hin rfl (ty := tyX8 0) (by decide +kernel) (rfl) (rfl) (Nat.le_of_ble_eq_true rfl) dX8_init_12 (fun M1 H1 locs1 e1 hh => ?_)
  have hJD := hJD.kX e1 hx0
  have hx0 := mu_at e1
  have hkp := hkp.put e1 (by simp)
  have hx0 : M1 x = some (.inr (8, [.ref J, .null])) := hx0
  have hM := hh.1
  refine lv_aload_n hx hb dX8_init_15 rfl (lv_at hl 0 rfl) ?_
  have hho := hh
  refine m_new (ci := 4) (fs := [.null, .null, .null, .null, .null, .int 0, .int 0, .int 0, .int 0]) (C := RX4) (T := TX4) (N := 9) hx hb hts in_X4 tyX4 tyX4_ok hown cl_16 ins_X4 ini_X4 hK hh rfl (fun j hj => by rcases (show j = 0 ∨ j = 1 ∨ j = 2 ∨ j = 3 ∨ j = 4 ∨ j = 5 ∨ j = 6 ∨ j = 7 ∨ j = 8 by omega) with rfl | rfl | rfl | rfl | rfl | rfl | rfl | rfl | rfl <;> rfl) (by decide) (by decide) dX8_init_16 (fun P M1 H1 hq e1 hh => ?_)
  have hkp := hkp.new hM hq e1
  have hf_P : M P = none := by rw [hq]; exact hho.new0 hM_0
  have hJD := hJD.kn ((kpL.rf _ []).new hM hq e1)
  have hx0 := mu_kp e1 (by rw [hq]; exact hM.ne hx0) hx0
  have hP := mu_at e1
  have hP : M1 P = some (.inr (4, [.null, .null, .null, .null, .null, .int 0, .int 0, .int 0, .int 0])) := hP
  have hM := hh.1
  refine W.widen (k := 11) (n := 278) (by decide) (by decide) ?_
  refine lv_dup hx hb dX8_init_19 rfl ?_
  refine lv_aload_n hx hb dX8_init_20 rfl (lv_at hl 0 rfl) ?_
  refine m_get (ci := 8) (C := RX8) (T := TX8) (N := 2) (v := .ref J) hx hb hts in_X8 hown hK hM hx0 rfl 0 (by decide) fl_10 (fun _ h => h) rfl dX8_init_21 ?_
  refine cmI (As := [.ref J]) (rest := [.ref P, .ref x]) (k_X4_init l D cA _ P J hP) ⟨hx, hb, hml, hown, hts⟩ (cwI 1 hts gX8_init_X4_init rfl rfl rfl ini_X4 ml_18 im_X4_init rfl (by decide +kernel) ⟨by decide, by decide⟩) hK hh rfl hl.1 rfl (Nat.le_of_ble_eq_true rfl) dX8_init_24 ⟨by decide, by decide⟩ (fun v9 M1 H1 locs1 hpost hh hz9 hk9 hn9 => ?_)
  obtain ⟨rfl, ⟨PH, WM, MT, WF, hpw⟩, hkc⟩ := hpost
  have hJD := hJD.k1 hkc hP (fun z => z.1 rfl) trivial
  have hkp := hkp.callN hkc hf_P
  have hx0 : M1 x = some (.inr (8, [.ref J, .null])) := hkc.k1 hP hx0 (by simp)
  have hM := hh.1
  refine W.widen (k := 15) (n := 881) (by decide) (by decide) ?_
  refine W.eq (g2 := F0 m 27 ls [.ref P, .ref x]) rfl ?_
  refine m_putF (ci := 8) (C := RX8) (T := TX8) (N := 2) (v := .ref P) hx hb hts in_X8 tyX8 tyX8_ok nmX8 hown hK hh hx0 rfl 1 (by decide) fl_21 (fun _ h => h) rfl hin rfl (ty := tyX8 1) (by decide +kernel) (rfl) (rfl) (Nat.le_of_ble_eq_true rfl) dX8_init_27 (fun M1 H1 locs1 e1 hh => ?_)
  have hJD := hJD.kX e1 hx0
  have hpw := hpw.kX e1 hx0
  have hx0 := mu_at e1
  have hkp := hkp.put e1 (by simp)
  have hx0 : M1 x = some (.inr (8, [.ref J, .ref P])) := hx0
  have hM := hh.1
  exact hretv _ _ _ _ _ _ _ hh (⟨rfl, ⟨J, P, TG, GO, SG, BG, TM, SM, PH, WM, MT, WF, hx0, hJD, hpw⟩, hkp⟩) (by decide) (by decide) dX8_init_30 rfl
set_option maxHeartbeats 1000000 in
set_option maxRecDepth 100000 in
theorem k_X9_init (l : Launch) (D : va_G) (cA : Nat → ClassId) (M : mp) (m0 : Nat)  (hR : M m0 = some (.inr (9, [.null, .null, .int 0, .null, .null, .null, .null, .null, .int 0, .int 0, .int 0, .int 0, .null, .null, .null, .long 0, .int 0, .int 0])))  : MC l D cA yX9_init wsX9_init 1 20 10 22842 [.ref m0] M (fun r M' => r = none ∧ (∃ fb ra wn ov th it td hp bd fl v fh fb2 ff, rfA cA M' m0 fb ra wn ov th it td hp bd fl v fh fb2 ff ∧ v 8 = .int (nI 1) ∧ v 9 = .int (bI false) ∧ v 10 = .int (nI 0) ∧ v 11 = .int (nI 0) ∧ (∀ k, k < 3 → fh k = lN 0) ∧ fb2 0 = lN 0 ∧ ff 0 = nI 0) ∧ kpL M M' [m0]) := by
  refine MC.of (cc := cX9_init) (maxL := 2) (ret := none) (by decide) rfl (Nat.le_of_ble_eq_true rfl) ?_
  intro p e s m args below meth c Q ls B hh hl hretv hreti hretz hretl hreta
  obtain ⟨hx, hb, hown, hts, hml, hK, hin⟩ := B
  have hM := hh.1
  have hM_0 := hh.1
  have hkp : kpL M M [m0] := kpL.rf M _
  have hown : s.vm.findClass RX9 = some m.cls := hown
  have hl : lv_has ls 2 [(0, .ref m0)] := hl
  have ob_l := hts (.methodLink RX9 1 objectInit) (by decide +kernel)
  have ob_i := hts (.instanceMethod objectInit) (by decide +kernel)
  have ob_c := hts (.code objectInit ⟨#[0xb1]⟩ 1 none) (by decide +kernel)
  have ac_long := hts (.arrayClass .long) (by decide +kernel)
  have in_X9 : ∀ w ∈ wsX90, w ∈ wsX9_init := by decide +kernel
  have fl_7 := hts (.fieldLink RX9 7 "GoldHeapsModel" "fib" "[J") (by decide +kernel)
  have fl_13 := hts (.fieldLink RX9 13 "GoldHeapsModel" "row" "[J") (by decide +kernel)
  have ac_boolean := hts (.arrayClass .boolean) (by decide +kernel)
  have fl_16 := hts (.fieldLink RX9 16 "GoldHeapsModel" "won" "[Z") (by decide +kernel)
  have fl_20 := hts (.fieldLink RX9 20 "GoldHeapsModel" "isOver" "[Z") (by decide +kernel)
  have fl_23 := hts (.fieldLink RX9 23 "GoldHeapsModel" "three" "[Z") (by decide +kernel)
  have fl_26 := hts (.fieldLink RX9 26 "GoldHeapsModel" "isThree" "[Z") (by decide +kernel)
  have fl_29 := hts (.fieldLink RX9 29 "GoldHeapsModel" "timed" "[Z") (by decide +kernel)
  have fl_32 := hts (.fieldLink RX9 32 "GoldHeapsModel" "game" "I") (by decide +kernel)
  have fl_36 := hts (.fieldLink RX9 36 "GoldHeapsModel" "heaps" "[J") (by decide +kernel)
  have fl_39 := hts (.fieldLink RX9 39 "GoldHeapsModel" "bounds" "[J") (by decide +kernel)
  have ac_int := hts (.arrayClass .int) (by decide +kernel)
  have fl_42 := hts (.fieldLink RX9 42 "GoldHeapsModel" "faults" "[I") (by decide +kernel)
  have cst_46 := hts (.constantLong RX9 46 (2)) (by decide +kernel)
  refine lv_aload_n hx hb dX9_init_0 rfl (lv_at hl 0 rfl) ?_
  refine W.objInit hx hb hown ob_l ob_i ob_c rfl (by rw [hml]; exact hl.1) rfl dX9_init_1 (Nat.le_of_ble_eq_true rfl) (Nat.le_of_ble_eq_true rfl) ?_
  refine W.eq (g2 := F0 m 4 ls []) rfl ?_
  refine lv_aload_n hx hb dX9_init_4 rfl (lv_at hl 0 rfl) ?_
  refine lv_bipush (v := 64) hx hb dX9_init_5 (by decide) ?_
  have hho := hh
  refine m_newa 0 rfl (atype := .long) hx hb (ty := .long) ac_long rfl hK hh (N' := 64) (a0 := (64, (.inr (.inl (fun _ => (0 : Int64)))))) (cellJ0 64) (by decide +kernel) (by decide +kernel) (by decide +kernel) (Nat.le_of_ble_eq_true rfl) (Nat.le_of_ble_eq_true rfl) dX9_init_7 (fun fb M1 H1 hq e1 hh => ?_)
  have hkp := hkp.new hM hq e1
  have hf_fb : M fb = none := by rw [hq]; exact hho.new0 hM_0
  have hR := mu_kp e1 (by rw [hq]; exact hM.ne hR) hR
  have hfb := mu_at e1
  have hfb : M1 fb = some (.inl (cA 0, 64, .inr (.inl (fun _ => (0 : Int64))))) := hfb
  have hM := hh.1
  refine W.widen (k := 1) (n := 64) (by decide) (by decide) ?_
  refine m_putF (ci := 9) (C := RX9) (T := TX9) (N := 18) (v := .ref fb) hx hb hts in_X9 tyX9 tyX9_ok nmX9 hown hK hh hR rfl 0 (by decide) fl_7 (fun _ h => h) rfl hin rfl (ty := tyX9 0) (by decide +kernel) (rfl) (rfl) (Nat.le_of_ble_eq_true rfl) dX9_init_9 (fun M1 H1 locs1 e1 hh => ?_)
  have hfb := mu_kp e1 (mp_ne hfb hR (by simp)) hfb
  have hR := mu_at e1
  have hkp := hkp.put e1 (by simp)
  have hR : M1 m0 = some (.inr (9, [.ref fb, .null, .int 0, .null, .null, .null, .null, .null, .int 0, .int 0, .int 0, .int 0, .null, .null, .null, .long 0, .int 0, .int 0])) := hR
  have hM := hh.1
  refine lv_aload_n hx hb dX9_init_12 rfl (lv_at hl 0 rfl) ?_
  refine lv_sipush (v := 500) hx hb dX9_init_13 (by decide) ?_
  have hho := hh
  refine m_newa 0 rfl (atype := .long) hx hb (ty := .long) ac_long rfl hK hh (N' := 500) (a0 := (500, (.inr (.inl (fun _ => (0 : Int64)))))) (cellJ0 500) (by decide +kernel) (by decide +kernel) (by decide +kernel) (Nat.le_of_ble_eq_true rfl) (Nat.le_of_ble_eq_true rfl) dX9_init_16 (fun ra M1 H1 hq e1 hh => ?_)
  have hkp := hkp.new hM hq e1
  have hf_ra : M ra = none := by rw [hq]; exact hho.new0 hM_0
  have hR := mu_kp e1 (by rw [hq]; exact hM.ne hR) hR
  have hfb := mu_kp e1 (by rw [hq]; exact hM.ne hfb) hfb
  have hra := mu_at e1
  have hra : M1 ra = some (.inl (cA 0, 500, .inr (.inl (fun _ => (0 : Int64))))) := hra
  have hM := hh.1
  refine W.widen (k := 2) (n := 564) (by decide) (by decide) ?_
  refine m_putF (ci := 9) (C := RX9) (T := TX9) (N := 18) (v := .ref ra) hx hb hts in_X9 tyX9 tyX9_ok nmX9 hown hK hh hR rfl 1 (by decide) fl_13 (fun _ h => h) rfl hin rfl (ty := tyX9 1) (by decide +kernel) (rfl) (rfl) (Nat.le_of_ble_eq_true rfl) dX9_init_18 (fun M1 H1 locs1 e1 hh => ?_)
  have hfb := mu_kp e1 (mp_ne hfb hR (by simp)) hfb
  have hra := mu_kp e1 (mp_ne hra hR (by simp)) hra
  have hR := mu_at e1
  have hkp := hkp.put e1 (by simp)
  have hR : M1 m0 = some (.inr (9, [.ref fb, .ref ra, .int 0, .null, .null, .null, .null, .null, .int 0, .int 0, .int 0, .int 0, .null, .null, .null, .long 0, .int 0, .int 0])) := hR
  have hM := hh.1
  refine lv_aload_n hx hb dX9_init_21 rfl (lv_at hl 0 rfl) ?_
  refine lv_sipush (v := 14884) hx hb dX9_init_22 (by decide) ?_
  have hho := hh
  refine m_newa 2 rfl (atype := .boolean) hx hb (ty := .boolean) ac_boolean rfl hK hh (N' := 14884) (a0 := (14884, (.inl (fun _ => (0 : Int32))))) (cellZ0 14884) (by decide +kernel) (by decide +kernel) (by decide +kernel) (Nat.le_of_ble_eq_true rfl) (Nat.le_of_ble_eq_true rfl) dX9_init_25 (fun wn M1 H1 hq e1 hh => ?_)
  have hkp := hkp.new hM hq e1
  have hf_wn : M wn = none := by rw [hq]; exact hho.new0 hM_0
  have hR := mu_kp e1 (by rw [hq]; exact hM.ne hR) hR
  have hfb := mu_kp e1 (by rw [hq]; exact hM.ne hfb) hfb
  have hra := mu_kp e1 (by rw [hq]; exact hM.ne hra) hra
  have hwn := mu_at e1
  have hwn : M1 wn = some (.inl (cA 2, 14884, .inl (fun _ => (0 : Int32)))) := hwn
  have hM := hh.1
  refine W.widen (k := 3) (n := 15448) (by decide) (by decide) ?_
  refine m_putF (ci := 9) (C := RX9) (T := TX9) (N := 18) (v := .ref wn) hx hb hts in_X9 tyX9 tyX9_ok nmX9 hown hK hh hR rfl 3 (by decide) fl_16 (fun _ h => h) rfl hin rfl (ty := tyX9 3) (by decide +kernel) (rfl) (rfl) (Nat.le_of_ble_eq_true rfl) dX9_init_27 (fun M1 H1 locs1 e1 hh => ?_)
  have hfb := mu_kp e1 (mp_ne hfb hR (by simp)) hfb
  have hra := mu_kp e1 (mp_ne hra hR (by simp)) hra
  have hwn := mu_kp e1 (mp_ne hwn hR (by simp)) hwn
  have hR := mu_at e1
  have hkp := hkp.put e1 (by simp)
  have hR : M1 m0 = some (.inr (9, [.ref fb, .ref ra, .int 0, .ref wn, .null, .null, .null, .null, .int 0, .int 0, .int 0, .int 0, .null, .null, .null, .long 0, .int 0, .int 0])) := hR
  have hM := hh.1
  refine lv_aload_n hx hb dX9_init_30 rfl (lv_at hl 0 rfl) ?_
  refine lv_iconst (v := 4) hx hb dX9_init_31 (by decide) ?_
  have hho := hh
  refine m_newa 2 rfl (atype := .boolean) hx hb (ty := .boolean) ac_boolean rfl hK hh (N' := 4) (a0 := (4, (.inl (fun _ => (0 : Int32))))) (cellZ0 4) (by decide +kernel) (by decide +kernel) (by decide +kernel) (Nat.le_of_ble_eq_true rfl) (Nat.le_of_ble_eq_true rfl) dX9_init_32 (fun ov M1 H1 hq e1 hh => ?_)
  have hkp := hkp.new hM hq e1
  have hf_ov : M ov = none := by rw [hq]; exact hho.new0 hM_0
  have hR := mu_kp e1 (by rw [hq]; exact hM.ne hR) hR
  have hfb := mu_kp e1 (by rw [hq]; exact hM.ne hfb) hfb
  have hra := mu_kp e1 (by rw [hq]; exact hM.ne hra) hra
  have hwn := mu_kp e1 (by rw [hq]; exact hM.ne hwn) hwn
  have hov := mu_at e1
  have hov : M1 ov = some (.inl (cA 2, 4, .inl (fun _ => (0 : Int32)))) := hov
  have hM := hh.1
  refine W.widen (k := 4) (n := 15452) (by decide) (by decide) ?_
  refine m_putF (ci := 9) (C := RX9) (T := TX9) (N := 18) (v := .ref ov) hx hb hts in_X9 tyX9 tyX9_ok nmX9 hown hK hh hR rfl 4 (by decide) fl_20 (fun _ h => h) rfl hin rfl (ty := tyX9 4) (by decide +kernel) (rfl) (rfl) (Nat.le_of_ble_eq_true rfl) dX9_init_34 (fun M1 H1 locs1 e1 hh => ?_)
  have hfb := mu_kp e1 (mp_ne hfb hR (by simp)) hfb
  have hra := mu_kp e1 (mp_ne hra hR (by simp)) hra
  have hwn := mu_kp e1 (mp_ne hwn hR (by simp)) hwn
  have hov := mu_kp e1 (mp_ne hov hR (by simp)) hov
  have hR := mu_at e1
  have hkp := hkp.put e1 (by simp)
  have hR : M1 m0 = some (.inr (9, [.ref fb, .ref ra, .int 0, .ref wn, .ref ov, .null, .null, .null, .int 0, .int 0, .int 0, .int 0, .null, .null, .null, .long 0, .int 0, .int 0])) := hR
  have hM := hh.1
  refine lv_aload_n hx hb dX9_init_37 rfl (lv_at hl 0 rfl) ?_
  refine lv_sipush (v := 2662) hx hb dX9_init_38 (by decide) ?_
  have hho := hh
  refine m_newa 2 rfl (atype := .boolean) hx hb (ty := .boolean) ac_boolean rfl hK hh (N' := 2662) (a0 := (2662, (.inl (fun _ => (0 : Int32))))) (cellZ0 2662) (by decide +kernel) (by decide +kernel) (by decide +kernel) (Nat.le_of_ble_eq_true rfl) (Nat.le_of_ble_eq_true rfl) dX9_init_41 (fun th M1 H1 hq e1 hh => ?_)
  have hkp := hkp.new hM hq e1
  have hf_th : M th = none := by rw [hq]; exact hho.new0 hM_0
  have hR := mu_kp e1 (by rw [hq]; exact hM.ne hR) hR
  have hfb := mu_kp e1 (by rw [hq]; exact hM.ne hfb) hfb
  have hra := mu_kp e1 (by rw [hq]; exact hM.ne hra) hra
  have hwn := mu_kp e1 (by rw [hq]; exact hM.ne hwn) hwn
  have hov := mu_kp e1 (by rw [hq]; exact hM.ne hov) hov
  have hth := mu_at e1
  have hth : M1 th = some (.inl (cA 2, 2662, .inl (fun _ => (0 : Int32)))) := hth
  have hM := hh.1
  refine W.widen (k := 5) (n := 18114) (by decide) (by decide) ?_
  refine m_putF (ci := 9) (C := RX9) (T := TX9) (N := 18) (v := .ref th) hx hb hts in_X9 tyX9 tyX9_ok nmX9 hown hK hh hR rfl 5 (by decide) fl_23 (fun _ h => h) rfl hin rfl (ty := tyX9 5) (by decide +kernel) (rfl) (rfl) (Nat.le_of_ble_eq_true rfl) dX9_init_43 (fun M1 H1 locs1 e1 hh => ?_)
  have hfb := mu_kp e1 (mp_ne hfb hR (by simp)) hfb
  have hra := mu_kp e1 (mp_ne hra hR (by simp)) hra
  have hwn := mu_kp e1 (mp_ne hwn hR (by simp)) hwn
  have hov := mu_kp e1 (mp_ne hov hR (by simp)) hov
  have hth := mu_kp e1 (mp_ne hth hR (by simp)) hth
  have hR := mu_at e1
  have hkp := hkp.put e1 (by simp)
  have hR : M1 m0 = some (.inr (9, [.ref fb, .ref ra, .int 0, .ref wn, .ref ov, .ref th, .null, .null, .int 0, .int 0, .int 0, .int 0, .null, .null, .null, .long 0, .int 0, .int 0])) := hR
  have hM := hh.1
  refine lv_aload_n hx hb dX9_init_46 rfl (lv_at hl 0 rfl) ?_
  refine lv_iconst (v := 2) hx hb dX9_init_47 (by decide) ?_
  have hho := hh
  refine m_newa 2 rfl (atype := .boolean) hx hb (ty := .boolean) ac_boolean rfl hK hh (N' := 2) (a0 := (2, (.inl (fun _ => (0 : Int32))))) (cellZ0 2) (by decide +kernel) (by decide +kernel) (by decide +kernel) (Nat.le_of_ble_eq_true rfl) (Nat.le_of_ble_eq_true rfl) dX9_init_48 (fun it M1 H1 hq e1 hh => ?_)
  have hkp := hkp.new hM hq e1
  have hf_it : M it = none := by rw [hq]; exact hho.new0 hM_0
  have hR := mu_kp e1 (by rw [hq]; exact hM.ne hR) hR
  have hfb := mu_kp e1 (by rw [hq]; exact hM.ne hfb) hfb
  have hra := mu_kp e1 (by rw [hq]; exact hM.ne hra) hra
  have hwn := mu_kp e1 (by rw [hq]; exact hM.ne hwn) hwn
  have hov := mu_kp e1 (by rw [hq]; exact hM.ne hov) hov
  have hth := mu_kp e1 (by rw [hq]; exact hM.ne hth) hth
  have hit := mu_at e1
  have hit : M1 it = some (.inl (cA 2, 2, .inl (fun _ => (0 : Int32)))) := hit
  have hM := hh.1
  refine W.widen (k := 6) (n := 18116) (by decide) (by decide) ?_
  refine m_putF (ci := 9) (C := RX9) (T := TX9) (N := 18) (v := .ref it) hx hb hts in_X9 tyX9 tyX9_ok nmX9 hown hK hh hR rfl 6 (by decide) fl_26 (fun _ h => h) rfl hin rfl (ty := tyX9 6) (by decide +kernel) (rfl) (rfl) (Nat.le_of_ble_eq_true rfl) dX9_init_50 (fun M1 H1 locs1 e1 hh => ?_)
  have hfb := mu_kp e1 (mp_ne hfb hR (by simp)) hfb
  have hra := mu_kp e1 (mp_ne hra hR (by simp)) hra
  have hwn := mu_kp e1 (mp_ne hwn hR (by simp)) hwn
  have hov := mu_kp e1 (mp_ne hov hR (by simp)) hov
  have hth := mu_kp e1 (mp_ne hth hR (by simp)) hth
  have hit := mu_kp e1 (mp_ne hit hR (by simp)) hit
  have hR := mu_at e1
  have hkp := hkp.put e1 (by simp)
  have hR : M1 m0 = some (.inr (9, [.ref fb, .ref ra, .int 0, .ref wn, .ref ov, .ref th, .ref it, .null, .int 0, .int 0, .int 0, .int 0, .null, .null, .null, .long 0, .int 0, .int 0])) := hR
  have hM := hh.1
  refine lv_aload_n hx hb dX9_init_53 rfl (lv_at hl 0 rfl) ?_
  refine lv_sipush (v := 3721) hx hb dX9_init_54 (by decide) ?_
  have hho := hh
  refine m_newa 2 rfl (atype := .boolean) hx hb (ty := .boolean) ac_boolean rfl hK hh (N' := 3721) (a0 := (3721, (.inl (fun _ => (0 : Int32))))) (cellZ0 3721) (by decide +kernel) (by decide +kernel) (by decide +kernel) (Nat.le_of_ble_eq_true rfl) (Nat.le_of_ble_eq_true rfl) dX9_init_57 (fun td M1 H1 hq e1 hh => ?_)
  have hkp := hkp.new hM hq e1
  have hf_td : M td = none := by rw [hq]; exact hho.new0 hM_0
  have hR := mu_kp e1 (by rw [hq]; exact hM.ne hR) hR
  have hfb := mu_kp e1 (by rw [hq]; exact hM.ne hfb) hfb
  have hra := mu_kp e1 (by rw [hq]; exact hM.ne hra) hra
  have hwn := mu_kp e1 (by rw [hq]; exact hM.ne hwn) hwn
  have hov := mu_kp e1 (by rw [hq]; exact hM.ne hov) hov
  have hth := mu_kp e1 (by rw [hq]; exact hM.ne hth) hth
  have hit := mu_kp e1 (by rw [hq]; exact hM.ne hit) hit
  have htd := mu_at e1
  have htd : M1 td = some (.inl (cA 2, 3721, .inl (fun _ => (0 : Int32)))) := htd
  have hM := hh.1
  refine W.widen (k := 7) (n := 21837) (by decide) (by decide) ?_
  refine m_putF (ci := 9) (C := RX9) (T := TX9) (N := 18) (v := .ref td) hx hb hts in_X9 tyX9 tyX9_ok nmX9 hown hK hh hR rfl 7 (by decide) fl_29 (fun _ h => h) rfl hin rfl (ty := tyX9 7) (by decide +kernel) (rfl) (rfl) (Nat.le_of_ble_eq_true rfl) dX9_init_59 (fun M1 H1 locs1 e1 hh => ?_)
  have hfb := mu_kp e1 (mp_ne hfb hR (by simp)) hfb
  have hra := mu_kp e1 (mp_ne hra hR (by simp)) hra
  have hwn := mu_kp e1 (mp_ne hwn hR (by simp)) hwn
  have hov := mu_kp e1 (mp_ne hov hR (by simp)) hov
  have hth := mu_kp e1 (mp_ne hth hR (by simp)) hth
  have hit := mu_kp e1 (mp_ne hit hR (by simp)) hit
  have htd := mu_kp e1 (mp_ne htd hR (by simp)) htd
  have hR := mu_at e1
  have hkp := hkp.put e1 (by simp)
  have hR : M1 m0 = some (.inr (9, [.ref fb, .ref ra, .int 0, .ref wn, .ref ov, .ref th, .ref it, .ref td, .int 0, .int 0, .int 0, .int 0, .null, .null, .null, .long 0, .int 0, .int 0])) := hR
  have hM := hh.1
  refine lv_aload_n hx hb dX9_init_62 rfl (lv_at hl 0 rfl) ?_
  refine lv_iconst (v := 1) hx hb dX9_init_63 (by decide) ?_
  refine m_put (ci := 9) (C := RX9) (T := TX9) (N := 18) (v := .int 1) hx hb hts in_X9 tyX9 tyX9_ok nmX9 hown hK hh hR rfl 8 (by decide) fl_32 (fun _ h => h) rfl (ty := tyX9 8) (by decide +kernel) (rfl) (rfl) (Nat.le_of_ble_eq_true rfl) dX9_init_64 (fun M1 H1 locs1 e1 hh => ?_)
  have hfb := mu_kp e1 (mp_ne hfb hR (by simp)) hfb
  have hra := mu_kp e1 (mp_ne hra hR (by simp)) hra
  have hwn := mu_kp e1 (mp_ne hwn hR (by simp)) hwn
  have hov := mu_kp e1 (mp_ne hov hR (by simp)) hov
  have hth := mu_kp e1 (mp_ne hth hR (by simp)) hth
  have hit := mu_kp e1 (mp_ne hit hR (by simp)) hit
  have htd := mu_kp e1 (mp_ne htd hR (by simp)) htd
  have hR := mu_at e1
  have hkp := hkp.put e1 (by simp)
  have hR : M1 m0 = some (.inr (9, [.ref fb, .ref ra, .int 0, .ref wn, .ref ov, .ref th, .ref it, .ref td, .int 1, .int 0, .int 0, .int 0, .null, .null, .null, .long 0, .int 0, .int 0])) := hR
  have hM := hh.1
  refine lv_aload_n hx hb dX9_init_67 rfl (lv_at hl 0 rfl) ?_
  refine lv_sipush (v := 603) hx hb dX9_init_68 (by decide) ?_
  have hho := hh
  refine m_newa 0 rfl (atype := .long) hx hb (ty := .long) ac_long rfl hK hh (N' := 603) (a0 := (603, (.inr (.inl (fun _ => (0 : Int64)))))) (cellJ0 603) (by decide +kernel) (by decide +kernel) (by decide +kernel) (Nat.le_of_ble_eq_true rfl) (Nat.le_of_ble_eq_true rfl) dX9_init_71 (fun hp M1 H1 hq e1 hh => ?_)
  have hkp := hkp.new hM hq e1
  have hf_hp : M hp = none := by rw [hq]; exact hho.new0 hM_0
  have hR := mu_kp e1 (by rw [hq]; exact hM.ne hR) hR
  have hfb := mu_kp e1 (by rw [hq]; exact hM.ne hfb) hfb
  have hra := mu_kp e1 (by rw [hq]; exact hM.ne hra) hra
  have hwn := mu_kp e1 (by rw [hq]; exact hM.ne hwn) hwn
  have hov := mu_kp e1 (by rw [hq]; exact hM.ne hov) hov
  have hth := mu_kp e1 (by rw [hq]; exact hM.ne hth) hth
  have hit := mu_kp e1 (by rw [hq]; exact hM.ne hit) hit
  have htd := mu_kp e1 (by rw [hq]; exact hM.ne htd) htd
  have hhp := mu_at e1
  have hhp : M1 hp = some (.inl (cA 0, 603, .inr (.inl (fun _ => (0 : Int64))))) := hhp
  have hM := hh.1
  refine W.widen (k := 8) (n := 22440) (by decide) (by decide) ?_
  refine m_putF (ci := 9) (C := RX9) (T := TX9) (N := 18) (v := .ref hp) hx hb hts in_X9 tyX9 tyX9_ok nmX9 hown hK hh hR rfl 12 (by decide) fl_36 (fun _ h => h) rfl hin rfl (ty := tyX9 12) (by decide +kernel) (rfl) (rfl) (Nat.le_of_ble_eq_true rfl) dX9_init_73 (fun M1 H1 locs1 e1 hh => ?_)
  have hfb := mu_kp e1 (mp_ne hfb hR (by simp)) hfb
  have hra := mu_kp e1 (mp_ne hra hR (by simp)) hra
  have hwn := mu_kp e1 (mp_ne hwn hR (by simp)) hwn
  have hov := mu_kp e1 (mp_ne hov hR (by simp)) hov
  have hth := mu_kp e1 (mp_ne hth hR (by simp)) hth
  have hit := mu_kp e1 (mp_ne hit hR (by simp)) hit
  have htd := mu_kp e1 (mp_ne htd hR (by simp)) htd
  have hhp := mu_kp e1 (mp_ne hhp hR (by simp)) hhp
  have hR := mu_at e1
  have hkp := hkp.put e1 (by simp)
  have hR : M1 m0 = some (.inr (9, [.ref fb, .ref ra, .int 0, .ref wn, .ref ov, .ref th, .ref it, .ref td, .int 1, .int 0, .int 0, .int 0, .ref hp, .null, .null, .long 0, .int 0, .int 0])) := hR
  have hM := hh.1
  refine lv_aload_n hx hb dX9_init_76 rfl (lv_at hl 0 rfl) ?_
  refine lv_sipush (v := 201) hx hb dX9_init_77 (by decide) ?_
  have hho := hh
  refine m_newa 0 rfl (atype := .long) hx hb (ty := .long) ac_long rfl hK hh (N' := 201) (a0 := (201, (.inr (.inl (fun _ => (0 : Int64)))))) (cellJ0 201) (by decide +kernel) (by decide +kernel) (by decide +kernel) (Nat.le_of_ble_eq_true rfl) (Nat.le_of_ble_eq_true rfl) dX9_init_80 (fun bd M1 H1 hq e1 hh => ?_)
  have hkp := hkp.new hM hq e1
  have hf_bd : M bd = none := by rw [hq]; exact hho.new0 hM_0
  have hR := mu_kp e1 (by rw [hq]; exact hM.ne hR) hR
  have hfb := mu_kp e1 (by rw [hq]; exact hM.ne hfb) hfb
  have hra := mu_kp e1 (by rw [hq]; exact hM.ne hra) hra
  have hwn := mu_kp e1 (by rw [hq]; exact hM.ne hwn) hwn
  have hov := mu_kp e1 (by rw [hq]; exact hM.ne hov) hov
  have hth := mu_kp e1 (by rw [hq]; exact hM.ne hth) hth
  have hit := mu_kp e1 (by rw [hq]; exact hM.ne hit) hit
  have htd := mu_kp e1 (by rw [hq]; exact hM.ne htd) htd
  have hhp := mu_kp e1 (by rw [hq]; exact hM.ne hhp) hhp
  have hbd := mu_at e1
  have hbd : M1 bd = some (.inl (cA 0, 201, .inr (.inl (fun _ => (0 : Int64))))) := hbd
  have hM := hh.1
  refine W.widen (k := 9) (n := 22641) (by decide) (by decide) ?_
  refine m_putF (ci := 9) (C := RX9) (T := TX9) (N := 18) (v := .ref bd) hx hb hts in_X9 tyX9 tyX9_ok nmX9 hown hK hh hR rfl 13 (by decide) fl_39 (fun _ h => h) rfl hin rfl (ty := tyX9 13) (by decide +kernel) (rfl) (rfl) (Nat.le_of_ble_eq_true rfl) dX9_init_82 (fun M1 H1 locs1 e1 hh => ?_)
  have hfb := mu_kp e1 (mp_ne hfb hR (by simp)) hfb
  have hra := mu_kp e1 (mp_ne hra hR (by simp)) hra
  have hwn := mu_kp e1 (mp_ne hwn hR (by simp)) hwn
  have hov := mu_kp e1 (mp_ne hov hR (by simp)) hov
  have hth := mu_kp e1 (mp_ne hth hR (by simp)) hth
  have hit := mu_kp e1 (mp_ne hit hR (by simp)) hit
  have htd := mu_kp e1 (mp_ne htd hR (by simp)) htd
  have hhp := mu_kp e1 (mp_ne hhp hR (by simp)) hhp
  have hbd := mu_kp e1 (mp_ne hbd hR (by simp)) hbd
  have hR := mu_at e1
  have hkp := hkp.put e1 (by simp)
  have hR : M1 m0 = some (.inr (9, [.ref fb, .ref ra, .int 0, .ref wn, .ref ov, .ref th, .ref it, .ref td, .int 1, .int 0, .int 0, .int 0, .ref hp, .ref bd, .null, .long 0, .int 0, .int 0])) := hR
  have hM := hh.1
  refine lv_aload_n hx hb dX9_init_85 rfl (lv_at hl 0 rfl) ?_
  refine lv_sipush (v := 201) hx hb dX9_init_86 (by decide) ?_
  have hho := hh
  refine m_newa 1 rfl (atype := .int) hx hb (ty := .int) ac_int rfl hK hh (N' := 201) (a0 := (201, (.inl (fun _ => (0 : Int32))))) (cellI0 201) (by decide +kernel) (by decide +kernel) (by decide +kernel) (Nat.le_of_ble_eq_true rfl) (Nat.le_of_ble_eq_true rfl) dX9_init_89 (fun fl M1 H1 hq e1 hh => ?_)
  have hkp := hkp.new hM hq e1
  have hf_fl : M fl = none := by rw [hq]; exact hho.new0 hM_0
  have hR := mu_kp e1 (by rw [hq]; exact hM.ne hR) hR
  have hfb := mu_kp e1 (by rw [hq]; exact hM.ne hfb) hfb
  have hra := mu_kp e1 (by rw [hq]; exact hM.ne hra) hra
  have hwn := mu_kp e1 (by rw [hq]; exact hM.ne hwn) hwn
  have hov := mu_kp e1 (by rw [hq]; exact hM.ne hov) hov
  have hth := mu_kp e1 (by rw [hq]; exact hM.ne hth) hth
  have hit := mu_kp e1 (by rw [hq]; exact hM.ne hit) hit
  have htd := mu_kp e1 (by rw [hq]; exact hM.ne htd) htd
  have hhp := mu_kp e1 (by rw [hq]; exact hM.ne hhp) hhp
  have hbd := mu_kp e1 (by rw [hq]; exact hM.ne hbd) hbd
  have hfl := mu_at e1
  have hfl : M1 fl = some (.inl (cA 1, 201, .inl (fun _ => (0 : Int32)))) := hfl
  have hM := hh.1
  refine W.widen (k := 10) (n := 22842) (by decide) (by decide) ?_
  refine m_putF (ci := 9) (C := RX9) (T := TX9) (N := 18) (v := .ref fl) hx hb hts in_X9 tyX9 tyX9_ok nmX9 hown hK hh hR rfl 14 (by decide) fl_42 (fun _ h => h) rfl hin rfl (ty := tyX9 14) (by decide +kernel) (rfl) (rfl) (Nat.le_of_ble_eq_true rfl) dX9_init_91 (fun M1 H1 locs1 e1 hh => ?_)
  have hfb := mu_kp e1 (mp_ne hfb hR (by simp)) hfb
  have hra := mu_kp e1 (mp_ne hra hR (by simp)) hra
  have hwn := mu_kp e1 (mp_ne hwn hR (by simp)) hwn
  have hov := mu_kp e1 (mp_ne hov hR (by simp)) hov
  have hth := mu_kp e1 (mp_ne hth hR (by simp)) hth
  have hit := mu_kp e1 (mp_ne hit hR (by simp)) hit
  have htd := mu_kp e1 (mp_ne htd hR (by simp)) htd
  have hhp := mu_kp e1 (mp_ne hhp hR (by simp)) hhp
  have hbd := mu_kp e1 (mp_ne hbd hR (by simp)) hbd
  have hfl := mu_kp e1 (mp_ne hfl hR (by simp)) hfl
  have hR := mu_at e1
  have hkp := hkp.put e1 (by simp)
  have hR : M1 m0 = some (.inr (9, [.ref fb, .ref ra, .int 0, .ref wn, .ref ov, .ref th, .ref it, .ref td, .int 1, .int 0, .int 0, .int 0, .ref hp, .ref bd, .ref fl, .long 0, .int 0, .int 0])) := hR
  have hM := hh.1
  refine lv_aload_n hx hb dX9_init_94 rfl (lv_at hl 0 rfl) ?_
  refine m_get (ci := 9) (C := RX9) (T := TX9) (N := 18) (v := .ref fb) hx hb hts in_X9 hown hK hM hR rfl 0 (by decide) fl_7 (fun _ h => h) rfl dX9_init_95 ?_
  refine lv_iconst (v := 0) hx hb dX9_init_98 (by decide) ?_
  refine lv_lconst (v := 1) hx hb dX9_init_99 (by decide) ?_
  refine tpl (x' := lN (fibN 0)) (by decide) ?_
  refine m_lastN (k := 0) hx hb hK hh hfb (rfl) (by decide) (by decide) dX9_init_100 (fun M1 H1 locs1 e1 hh => ?_)
  have hR := mu_kp e1 (mp_ne hR hfb (by simp)) hR
  have hra := mu_kp e1 (mp_ne hra hfb (by simp)) hra
  have hwn := mu_kp e1 (mp_ne hwn hfb (by simp)) hwn
  have hov := mu_kp e1 (mp_ne hov hfb (by simp)) hov
  have hth := mu_kp e1 (mp_ne hth hfb (by simp)) hth
  have hit := mu_kp e1 (mp_ne hit hfb (by simp)) hit
  have htd := mu_kp e1 (mp_ne htd hfb (by simp)) htd
  have hhp := mu_kp e1 (mp_ne hhp hfb (by simp)) hhp
  have hbd := mu_kp e1 (mp_ne hbd hfb (by simp)) hbd
  have hfl := mu_kp e1 (mp_ne hfl hfb (by simp)) hfl
  have hfb := mu_at e1
  have hkp := hkp.putN e1 hf_fb
  have hfb : M1 fb = some (.inl (cA 0, 64, .inr (.inl (vp_updL (fun _ => (0 : Int64)) 0 (lN (fibN 0)))))) := hfb
  have hM := hh.1
  refine lv_aload_n hx hb dX9_init_101 rfl (lv_at hl 0 rfl) ?_
  refine m_get (ci := 9) (C := RX9) (T := TX9) (N := 18) (v := .ref fb) hx hb hts in_X9 hown hK hM hR rfl 0 (by decide) fl_7 (fun _ h => h) rfl dX9_init_102 ?_
  refine lv_iconst (v := 1) hx hb dX9_init_105 (by decide) ?_
  refine lv_ldc2 hx hb hown cst_46 dX9_init_106 ?_
  refine tpl (x' := lN (fibN 1)) (by decide) ?_
  refine m_lastN (k := 1) hx hb hK hh hfb (rfl) (by decide) (by decide) dX9_init_109 (fun M1 H1 locs1 e1 hh => ?_)
  have hR := mu_kp e1 (mp_ne hR hfb (by simp)) hR
  have hra := mu_kp e1 (mp_ne hra hfb (by simp)) hra
  have hwn := mu_kp e1 (mp_ne hwn hfb (by simp)) hwn
  have hov := mu_kp e1 (mp_ne hov hfb (by simp)) hov
  have hth := mu_kp e1 (mp_ne hth hfb (by simp)) hth
  have hit := mu_kp e1 (mp_ne hit hfb (by simp)) hit
  have htd := mu_kp e1 (mp_ne htd hfb (by simp)) htd
  have hhp := mu_kp e1 (mp_ne hhp hfb (by simp)) hhp
  have hbd := mu_kp e1 (mp_ne hbd hfb (by simp)) hbd
  have hfl := mu_kp e1 (mp_ne hfl hfb (by simp)) hfl
  have hfb := mu_at e1
  have hkp := hkp.putN e1 hf_fb
  have hfb : M1 fb = some (.inl (cA 0, 64, .inr (.inl (vp_updL (vp_updL (fun _ => (0 : Int64)) 0 (lN (fibN 0))) 1 (lN (fibN 1)))))) := hfb
  have hM := hh.1
  refine lv_iconst (v := 2) hx hb dX9_init_110 (by decide) ?_
  refine tpi (x' := nI (0 + 2)) (rfl) ?_
  refine lv_istore_n (lv' := [(1, .int (nI (0 + 2))), (0, .ref m0)]) hx hb dX9_init_111 rfl hl (by decide) rfl (fun ls hl => ?_)
  have j_112 : ∀ (fu : Nat) (i : Nat) (f : Nat → Int64) (M1 : mp) (H : Heap) (locs : List Loc) (ls : Array Slot), (i ≤ 62) → (∀ j, j < i + 2 → f j = lN (fibN j)) → (hw D M s.heap M1 H locs) → (kpL M M1 [m0]) → (M1 m0 = some (.inr (9, [.ref fb, .ref ra, .int 0, .ref wn, .ref ov, .ref th, .ref it, .ref td, .int 1, .int 0, .int 0, .int 0, .ref hp, .ref bd, .ref fl, .long 0, .int 0, .int 0]))) → (M1 fb = some (.inl (cA 0, 64, .inr (.inl f)))) → (M1 ra = some (.inl (cA 0, 500, .inr (.inl (fun _ => (0 : Int64)))))) → (M1 wn = some (.inl (cA 2, 14884, .inl (fun _ => (0 : Int32))))) → (M1 ov = some (.inl (cA 2, 4, .inl (fun _ => (0 : Int32))))) → (M1 th = some (.inl (cA 2, 2662, .inl (fun _ => (0 : Int32))))) → (M1 it = some (.inl (cA 2, 2, .inl (fun _ => (0 : Int32))))) → (M1 td = some (.inl (cA 2, 3721, .inl (fun _ => (0 : Int32))))) → (M1 hp = some (.inl (cA 0, 603, .inr (.inl (fun _ => (0 : Int64)))))) → (M1 bd = some (.inl (cA 0, 201, .inr (.inl (fun _ => (0 : Int64)))))) → (M1 fl = some (.inl (cA 1, 201, .inl (fun _ => (0 : Int32))))) → (64 - i < fu) → lv_has ls 2 [(0, .ref m0), (1, .int (nI (i + 2)))] → W p l e ({ frames := 1, cells := 10, slots := 22842, locals := 20 } : Room) s m args below meth c H locs 10 22842 Q (F0 m 112 ls []) := by
    intro fu
    induction fu with
    | zero => intro i f M1 H locs ls hi hf hh hkp hR hfb hra hwn hov hth hit htd hhp hbd hfl hm_112 _; exact absurd hm_112 (Nat.not_lt_zero _)
    | succ fu ih_112 =>
      intro i f M1 H locs ls hi hf hh hkp hR hfb hra hwn hov hth hit htd hhp hbd hfl hm_112 hl
      have hM := hh.1
      refine lv_iload_n hx hb dX9_init_112 rfl (lv_at hl 1 rfl) ?_
      refine lv_bipush (v := 64) hx hb dX9_init_113 (by decide) ?_
      refine bi_ge (tgt := 147) hx hb dX9_init_115 (by decide) (fun c_115 n_115 => ?_) (fun c_115 n_115 => ?_)
      · skip
        have h6 : 64 ≤ i + 2 := (nI_leI (a := 64) (by decide) (by omega)).mp c_115
        exact hretv _ _ _ _ _ _ _ hh (⟨rfl, ⟨fb, ra, wn, ov, th, it, td, hp, bd, fl, (fun k => ([.ref fb, .ref ra, .int 0, .ref wn, .ref ov, .ref th, .ref it, .ref td, .int 1, .int 0, .int 0, .int 0, .ref hp, .ref bd, .ref fl, .long 0, .int 0, .int 0] : List Value).getD k .null), _, _, _, ⟨hR, ⟨rfl, rfl, rfl, rfl, rfl, rfl, rfl, rfl, rfl, rfl⟩, ⟨f, hfb, fun j hj => hf j (by omega)⟩, ⟨_, hra⟩, ⟨⟨_, _, hwn, hov, fun _ _ _ h => absurd rfl h⟩, ⟨_, _, hth, hit, fun _ h => absurd rfl h⟩⟩, ⟨_, htd⟩, hhp, hbd, hfl⟩, rfl, rfl, rfl, rfl, fun _ _ => rfl, rfl, rfl⟩, hkp⟩) (by decide) (by decide) dX9_init_147 rfl
      · skip
        have h6 : i + 2 < 64 := (nI_ltI (b := 64) (by omega) (by decide)).mp c_115
        refine lv_aload_n hx hb dX9_init_118 rfl (lv_at hl 0 rfl) ?_
        refine m_get (ci := 9) (C := RX9) (T := TX9) (N := 18) (v := .ref fb) hx hb hts in_X9 hown hK hM hR rfl 0 (by decide) fl_7 (fun _ h => h) rfl dX9_init_119 ?_
        refine lv_iload_n hx hb dX9_init_122 rfl (lv_at hl 1 rfl) ?_
        refine lv_aload_n hx hb dX9_init_123 rfl (lv_at hl 0 rfl) ?_
        refine m_get (ci := 9) (C := RX9) (T := TX9) (N := 18) (v := .ref fb) hx hb hts in_X9 hown hK hM hR rfl 0 (by decide) fl_7 (fun _ h => h) rfl dX9_init_124 ?_
        refine lv_iload_n hx hb dX9_init_127 rfl (lv_at hl 1 rfl) ?_
        refine lv_iconst (v := 1) hx hb dX9_init_128 (by decide) ?_
        refine lv_isub hx hb dX9_init_129 ?_
        refine tpi (x' := nI (i + 1)) (nI_sub (b := 1) (by omega)) ?_
        refine m_laldN (k := i + 1) hx hb hK hM hfb (rfl) (by omega) (by decide) dX9_init_130 ?_
        refine tpl (x' := lN (fibN (i + 1))) (hf _ (by omega)) ?_
        refine lv_aload_n hx hb dX9_init_131 rfl (lv_at hl 0 rfl) ?_
        refine m_get (ci := 9) (C := RX9) (T := TX9) (N := 18) (v := .ref fb) hx hb hts in_X9 hown hK hM hR rfl 0 (by decide) fl_7 (fun _ h => h) rfl dX9_init_132 ?_
        refine lv_iload_n hx hb dX9_init_135 rfl (lv_at hl 1 rfl) ?_
        refine lv_iconst (v := 2) hx hb dX9_init_136 (by decide) ?_
        refine lv_isub hx hb dX9_init_137 ?_
        refine tpi (x' := nI i) (nI_sub (b := 2) (by omega)) ?_
        refine m_laldN (k := i) hx hb hK hM hfb (rfl) (by omega) (by decide) dX9_init_138 ?_
        refine tpl (x' := lN (fibN i)) (hf _ (by omega)) ?_
        refine lv_ladd hx hb dX9_init_139 ?_
        refine tpl (x' := lN (fibN (i + 2))) (by rw [lN_add, fib_rec i (by omega)]) ?_
        refine m_lastN (k := i + 2) hx hb hK hh hfb (rfl) (by omega) (by decide) dX9_init_140 (fun M1 H1 locs1 e1 hh => ?_)
        have hR := mu_kp e1 (mp_ne hR hfb (by simp)) hR
        have hra := mu_kp e1 (mp_ne hra hfb (by simp)) hra
        have hwn := mu_kp e1 (mp_ne hwn hfb (by simp)) hwn
        have hov := mu_kp e1 (mp_ne hov hfb (by simp)) hov
        have hth := mu_kp e1 (mp_ne hth hfb (by simp)) hth
        have hit := mu_kp e1 (mp_ne hit hfb (by simp)) hit
        have htd := mu_kp e1 (mp_ne htd hfb (by simp)) htd
        have hhp := mu_kp e1 (mp_ne hhp hfb (by simp)) hhp
        have hbd := mu_kp e1 (mp_ne hbd hfb (by simp)) hbd
        have hfl := mu_kp e1 (mp_ne hfl hfb (by simp)) hfl
        have hfb := mu_at e1
        have hkp := hkp.putN e1 hf_fb
        have hfb : M1 fb = some (.inl (cA 0, 64, .inr (.inl (vp_updL f (i + 2) (lN (fibN (i + 2))))))) := hfb
        have hM := hh.1
        refine lv_iinc (v := nI (i + 1 + 2)) (lv' := [(1, .int (nI (i + 1 + 2))), (0, .ref m0)]) hx hb dX9_init_141 hl (k := 1) rfl (nI_up (i + 2)) (by decide) rfl (fun ls hl => ?_)
        refine lv_goto (tgt := 112) hx hb dX9_init_144 (by decide) ?_
        exact ih_112 (i + 1) ((vp_updL f (i + 2) (lN (fibN (i + 2))))) _ _ _ _ (by omega) (fun j hj => by by_cases e : j = i + 2; (rw [e, pk_uLs]); (rw [pk_uLn e]; exact hf j (by omega))) hh hkp hR hfb hra hwn hov hth hit htd hhp hbd hfl (by omega) (lv_sub hl [1, 0] rfl)
  exact j_112 (65) 0 ((vp_updL (vp_updL (fun _ => (0 : Int64)) 0 (lN (fibN 0))) 1 (lN (fibN 1)))) _ _ _ _ (by omega) (fun j hj => by by_cases e : j = 1; (rw [e, pk_uLs]); (rw [show j = 0 by omega, pk_uLn (by decide), pk_uLs])) hh hkp hR hfb hra hwn hov hth hit htd hhp hbd hfl (by omega) (lv_sub hl [1, 0] rfl)
