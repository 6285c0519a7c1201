theorem fcF_le (fa : Nat → Bool) : ∀ n, fcF fa n ≤ n
  | 0 => Nat.le_refl _
  | n + 1 => by
    show fcF fa n + bN (fa n) ≤ _
    have := fcF_le fa n
    have : bN (fa n) ≤ 1 := by cases fa n <;> decide
    omega
set_option maxHeartbeats 1000000 in
set_option maxRecDepth 100000 in
theorem k_X4_begin (l : Launch) (D : va_G) (cA : Nat → ClassId) (M : mp) (P J PH WM MT WF g t mv : Nat) (mi : Bool) (hv wh ma : Nat → Nat) (fa : Nat → Bool) (TG GO SG BG TM SM : Nat) (g2 : Nat) (m2 : Bool) (a b c : Nat) (c0 : Int64)  (hpw : pw cA M P J PH WM MT WF g t mv mi hv wh ma fa) (hJD : jdW cA M J TG GO SG BG TM SM) (hg23 : g2 ≤ 3) (hc3 : g2 = 3 → c0 = lN c)  : MC l D cA yX4_begin wsX4_begin 0 0 0 0 [.ref P, .int (nI g2), .int (bI m2), .long (lN a), .long (lN b), .long c0] M (fun r M' => r = none ∧ pw cA M' P J PH WM MT WF g2 (if g2 = 2 then b else 0) 0 m2 (hv0 g2 a b c) wh ma fa ∧ jdW cA M' J TG GO SG BG TM SM ∧ kpL M M' [P, PH]) := by
  refine MC.of (cc := cX4_begin) (maxL := 9) (ret := none) (by decide) rfl (Nat.le_of_ble_eq_true rfl) ?_
  intro p e s m args below meth c Q ls B hh hl hretv hreti hretz hretl hreta
  obtain ⟨hx, hb, hown, hts, hml, hK, hin⟩ := B
  have hM := hh.1
  have hM_0 := hh.1
  have hkp : kpL M M [P, PH] := kpL.rf M _
  have hown : s.vm.findClass RX4 = some m.cls := hown
  have hl : lv_has ls 9 [(0, .ref P), (1, .int (nI g2)), (2, .int (bI m2)), (3, .long (lN a)), (5, .long (lN b)), (7, .long c0)] := hl
  have in_X4 : ∀ w ∈ wsX40, w ∈ wsX4_begin := by decide +kernel
  have fl_26 := hts (.fieldLink RX4 26 "GoldHeaps$Play" "game" "I") (by decide +kernel)
  have fl_34 := hts (.fieldLink RX4 34 "GoldHeaps$Play" "misere" "Z") (by decide +kernel)
  have fl_38 := hts (.fieldLink RX4 38 "GoldHeaps$Play" "t" "I") (by decide +kernel)
  have fl_11 := hts (.fieldLink RX4 11 "GoldHeaps$Play" "heaps" "[J") (by decide +kernel)
  have fl_41 := hts (.fieldLink RX4 41 "GoldHeaps$Play" "made" "I") (by decide +kernel)
  obtain ⟨fh, fw, fm, fz, hP, hPH, hWM, hMT, hWF, hne, hfh, hfw, hfm, hfz⟩ := hpw
  refine lv_aload_n hx hb dX4_begin_0 rfl (lv_at hl 0 rfl) ?_
  refine lv_iload_n hx hb dX4_begin_1 rfl (lv_at hl 1 rfl) ?_
  refine m_put (ci := 4) (C := RX4) (T := TX4) (N := 9) (v := .int (nI g2)) hx hb hts in_X4 tyX4 tyX4_ok nmX4 hown hK hh hP rfl 5 (by decide) fl_26 (fun _ h => h) rfl (ty := tyX4 5) (by decide +kernel) (rfl) (rfl) (Nat.le_of_ble_eq_true rfl) dX4_begin_2 (fun M1 H1 locs1 e1 hh => ?_)
  have hJD := hJD.put hP (by simp [imm]) (by simp [nref]) e1
  have hPH := mu_kp e1 (mp_ne hPH hP (by simp)) hPH
  have hWM := mu_kp e1 (mp_ne hWM hP (by simp)) hWM
  have hMT := mu_kp e1 (mp_ne hMT hP (by simp)) hMT
  have hWF := mu_kp e1 (mp_ne hWF hP (by simp)) hWF
  have hP := mu_at e1
  have hkp := hkp.put e1 (by simp)
  have hP : M1 P = some (.inr (4, [.ref J, .ref PH, .ref WM, .ref MT, .ref WF, .int (nI g2), .int (bI mi), .int (nI t), .int (nI mv)])) := hP
  have hM := hh.1
  refine lv_aload_n hx hb dX4_begin_5 rfl (lv_at hl 0 rfl) ?_
  refine lv_iload_n hx hb dX4_begin_6 rfl (lv_at hl 2 rfl) ?_
  refine m_put (ci := 4) (C := RX4) (T := TX4) (N := 9) (v := .int (bI m2)) hx hb hts in_X4 tyX4 tyX4_ok nmX4 hown hK hh hP rfl 6 (by decide) fl_34 (fun _ h => h) rfl (ty := tyX4 6) (by decide +kernel) (bI_nar _) (by cases m2 <;> rfl) (Nat.le_of_ble_eq_true rfl) dX4_begin_7 (fun M1 H1 locs1 e1 hh => ?_)
  have hJD := hJD.put hP (by simp [imm]) (by simp [nref]) e1
  have hPH := mu_kp e1 (mp_ne hPH hP (by simp)) hPH
  have hWM := mu_kp e1 (mp_ne hWM hP (by simp)) hWM
  have hMT := mu_kp e1 (mp_ne hMT hP (by simp)) hMT
  have hWF := mu_kp e1 (mp_ne hWF hP (by simp)) hWF
  have hP := mu_at e1
  have hkp := hkp.put e1 (by simp)
  have hP : M1 P = some (.inr (4, [.ref J, .ref PH, .ref WM, .ref MT, .ref WF, .int (nI g2), .int (bI m2), .int (nI t), .int (nI mv)])) := hP
  have hM := hh.1
  refine lv_aload_n hx hb dX4_begin_10 rfl (lv_at hl 0 rfl) ?_
  refine lv_aload_n hx hb dX4_begin_11 rfl (lv_at hl 0 rfl) ?_
  refine m_get (ci := 4) (C := RX4) (T := TX4) (N := 9) (v := .int (nI g2)) hx hb hts in_X4 hown hK hM hP rfl 5 (by decide) fl_26 (fun _ h => h) rfl dX4_begin_12 ?_
  refine lv_iconst (v := 2) hx hb dX4_begin_15 (by decide) ?_
  refine bi_ne (tgt := 25) hx hb dX4_begin_16 (by decide) (fun c_16 n_16 => ?_) (fun c_16 n_16 => ?_)
  · skip
    have q2 : ¬ g2 = 2 := fun z => c_16 (by rw [z]; rfl)
    refine lv_iconst (v := 0) hx hb dX4_begin_25 (by decide) ?_
    refine m_put (ci := 4) (C := RX4) (T := TX4) (N := 9) (v := .int 0) hx hb hts in_X4 tyX4 tyX4_ok nmX4 hown hK hh hP rfl 7 (by decide) fl_38 (fun _ h => h) rfl (ty := tyX4 7) (by decide +kernel) (rfl) (rfl) (Nat.le_of_ble_eq_true rfl) dX4_begin_26 (fun M1 H1 locs1 e1 hh => ?_)
    have hJD := hJD.put hP (by simp [imm]) (by simp [nref]) e1
    have hPH := mu_kp e1 (mp_ne hPH hP (by simp)) hPH
    have hWM := mu_kp e1 (mp_ne hWM hP (by simp)) hWM
    have hMT := mu_kp e1 (mp_ne hMT hP (by simp)) hMT
    have hWF := mu_kp e1 (mp_ne hWF hP (by simp)) hWF
    have hP := mu_at e1
    have hkp := hkp.put e1 (by simp)
    have hP : M1 P = some (.inr (4, [.ref J, .ref PH, .ref WM, .ref MT, .ref WF, .int (nI g2), .int (bI m2), .int 0, .int (nI mv)])) := hP
    have hM := hh.1
    refine lv_aload_n hx hb dX4_begin_29 rfl (lv_at hl 0 rfl) ?_
    refine m_get (ci := 4) (C := RX4) (T := TX4) (N := 9) (v := .ref PH) hx hb hts in_X4 hown hK hM hP rfl 1 (by decide) fl_11 (fun _ h => h) rfl dX4_begin_30 ?_
    refine lv_iconst (v := 0) hx hb dX4_begin_33 (by decide) ?_
    refine lv_lload_n hx hb dX4_begin_34 rfl (lv_at hl 3 rfl) ?_
    refine m_lastN (k := 0) hx hb hK hh hPH (rfl) (by decide) (by decide) dX4_begin_35 (fun M1 H1 locs1 e1 hh => ?_)
    have hJD := hJD.put hPH (by simp [imm]) (by simp [nref]) e1
    have hP := mu_kp e1 (mp_ne hP hPH (by simp)) hP
    have hWM := mu_kp e1 (mp_ne hWM hPH (by simp)) hWM
    have hMT := mu_kp e1 (mp_ne hMT hPH (by simp)) hMT
    have hWF := mu_kp e1 (mp_ne hWF hPH (by simp)) hWF
    have hPH := mu_at e1
    have hkp := hkp.put e1 (by simp)
    have hPH : M1 PH = some (.inl (cA 0, 3, .inr (.inl (vp_updL fh 0 (lN a))))) := hPH
    have hM := hh.1
    refine lv_aload_n hx hb dX4_begin_36 rfl (lv_at hl 0 rfl) ?_
    refine m_get (ci := 4) (C := RX4) (T := TX4) (N := 9) (v := .ref PH) hx hb hts in_X4 hown hK hM hP rfl 1 (by decide) fl_11 (fun _ h => h) rfl dX4_begin_37 ?_
    refine lv_iconst (v := 1) hx hb dX4_begin_40 (by decide) ?_
    refine lv_aload_n hx hb dX4_begin_41 rfl (lv_at hl 0 rfl) ?_
    refine m_get (ci := 4) (C := RX4) (T := TX4) (N := 9) (v := .int (nI g2)) hx hb hts in_X4 hown hK hM hP rfl 5 (by decide) fl_26 (fun _ h => h) rfl dX4_begin_42 ?_
    refine lv_iconst (v := 2) hx hb dX4_begin_45 (by decide) ?_
    refine bi_ne (tgt := 53) hx hb dX4_begin_46 (by decide) (fun c_46 n_46 => ?_) (fun c_46 n_46 => ?_)
    · skip
      refine lv_lload hx hb dX4_begin_53 (lv_at hl 4 rfl) ?_
      refine m_lastN (k := 1) hx hb hK hh hPH (rfl) (by decide) (by decide) dX4_begin_55 (fun M1 H1 locs1 e1 hh => ?_)
      have hJD := hJD.put hPH (by simp [imm]) (by simp [nref]) e1
      have hP := mu_kp e1 (mp_ne hP hPH (by simp)) hP
      have hWM := mu_kp e1 (mp_ne hWM hPH (by simp)) hWM
      have hMT := mu_kp e1 (mp_ne hMT hPH (by simp)) hMT
      have hWF := mu_kp e1 (mp_ne hWF hPH (by simp)) hWF
      have hPH := mu_at e1
      have hkp := hkp.put e1 (by simp)
      have hPH : M1 PH = some (.inl (cA 0, 3, .inr (.inl (vp_updL (vp_updL fh 0 (lN a)) 1 (lN b))))) := hPH
      have hM := hh.1
      refine lv_aload_n hx hb dX4_begin_56 rfl (lv_at hl 0 rfl) ?_
      refine m_get (ci := 4) (C := RX4) (T := TX4) (N := 9) (v := .ref PH) hx hb hts in_X4 hown hK hM hP rfl 1 (by decide) fl_11 (fun _ h => h) rfl dX4_begin_57 ?_
      refine lv_iconst (v := 2) hx hb dX4_begin_60 (by decide) ?_
      refine lv_aload_n hx hb dX4_begin_61 rfl (lv_at hl 0 rfl) ?_
      refine m_get (ci := 4) (C := RX4) (T := TX4) (N := 9) (v := .int (nI g2)) hx hb hts in_X4 hown hK hM hP rfl 5 (by decide) fl_26 (fun _ h => h) rfl dX4_begin_62 ?_
      refine lv_iconst (v := 3) hx hb dX4_begin_65 (by decide) ?_
      refine bi_ne (tgt := 74) hx hb dX4_begin_66 (by decide) (fun c_66 n_66 => ?_) (fun c_66 n_66 => ?_)
      · skip
        have q3 : ¬ g2 = 3 := fun z => c_66 (by rw [z]; rfl)
        refine lv_lconst (v := 0) hx hb dX4_begin_74 (by decide) ?_
        refine m_lastN (k := 2) hx hb hK hh hPH (rfl) (by decide) (by decide) dX4_begin_75 (fun M1 H1 locs1 e1 hh => ?_)
        have hJD := hJD.put hPH (by simp [imm]) (by simp [nref]) e1
        have hP := mu_kp e1 (mp_ne hP hPH (by simp)) hP
        have hWM := mu_kp e1 (mp_ne hWM hPH (by simp)) hWM
        have hMT := mu_kp e1 (mp_ne hMT hPH (by simp)) hMT
        have hWF := mu_kp e1 (mp_ne hWF hPH (by simp)) hWF
        have hPH := mu_at e1
        have hkp := hkp.put e1 (by simp)
        have hPH : M1 PH = some (.inl (cA 0, 3, .inr (.inl (vp_updL (vp_updL (vp_updL fh 0 (lN a)) 1 (lN b)) 2 0)))) := hPH
        have hM := hh.1
        refine lv_aload_n hx hb dX4_begin_76 rfl (lv_at hl 0 rfl) ?_
        refine lv_iconst (v := 0) hx hb dX4_begin_77 (by decide) ?_
        refine m_put (ci := 4) (C := RX4) (T := TX4) (N := 9) (v := .int 0) hx hb hts in_X4 tyX4 tyX4_ok nmX4 hown hK hh hP rfl 8 (by decide) fl_41 (fun _ h => h) rfl (ty := tyX4 8) (by decide +kernel) (rfl) (rfl) (Nat.le_of_ble_eq_true rfl) dX4_begin_78 (fun M1 H1 locs1 e1 hh => ?_)
        have hJD := hJD.put hP (by simp [imm]) (by simp [nref]) e1
        have hPH := mu_kp e1 (mp_ne hPH hP (by simp)) hPH
        have hWM := mu_kp e1 (mp_ne hWM hP (by simp)) hWM
        have hMT := mu_kp e1 (mp_ne hMT hP (by simp)) hMT
        have hWF := mu_kp e1 (mp_ne hWF hP (by simp)) hWF
        have hP := mu_at e1
        have hkp := hkp.put e1 (by simp)
        have hP : M1 P = some (.inr (4, [.ref J, .ref PH, .ref WM, .ref MT, .ref WF, .int (nI g2), .int (bI m2), .int 0, .int 0])) := hP
        have hM := hh.1
        exact hretv _ _ _ _ _ _ _ hh (⟨rfl, ⟨_, fw, fm, fz, by rw [if_neg q2]; exact hP, hPH, hWM, hMT, hWF, hne, fun k hk => by unfold hv0; rcases (show k = 0 ∨ k = 1 ∨ k = 2 by omega) with e | e | e <;> subst e; (rw [pk_uLn (by decide), pk_uLn (by decide), pk_uLs]; rfl); (rw [pk_uLn (by decide), pk_uLs]; simp [q2]); (rw [pk_uLs]; simp [q3]; rfl), fun j hj => absurd hj (Nat.not_lt_zero _), fun j hj => absurd hj (Nat.not_lt_zero _), fun j hj => absurd hj (Nat.not_lt_zero _)⟩, hJD, hkp⟩) (by decide) (by decide) dX4_begin_81 rfl
      · skip
        have q3 : g2 = 3 := (nI_eq (b := 3) (by omega) (by decide)).mp c_66
        refine lv_lload hx hb dX4_begin_69 (lv_at hl 5 rfl) ?_
        refine lv_goto (tgt := 75) hx hb dX4_begin_71 (by decide) ?_
        refine m_lastN (k := 2) hx hb hK hh hPH (rfl) (by decide) (by decide) dX4_begin_75 (fun M1 H1 locs1 e1 hh => ?_)
        have hJD := hJD.put hPH (by simp [imm]) (by simp [nref]) e1
        have hP := mu_kp e1 (mp_ne hP hPH (by simp)) hP
        have hWM := mu_kp e1 (mp_ne hWM hPH (by simp)) hWM
        have hMT := mu_kp e1 (mp_ne hMT hPH (by simp)) hMT
        have hWF := mu_kp e1 (mp_ne hWF hPH (by simp)) hWF
        have hPH := mu_at e1
        have hkp := hkp.put e1 (by simp)
        have hPH : M1 PH = some (.inl (cA 0, 3, .inr (.inl (vp_updL (vp_updL (vp_updL fh 0 (lN a)) 1 (lN b)) 2 c0)))) := hPH
        have hM := hh.1
        refine lv_aload_n hx hb dX4_begin_76 rfl (lv_at hl 0 rfl) ?_
        refine lv_iconst (v := 0) hx hb dX4_begin_77 (by decide) ?_
        refine m_put (ci := 4) (C := RX4) (T := TX4) (N := 9) (v := .int 0) hx hb hts in_X4 tyX4 tyX4_ok nmX4 hown hK hh hP rfl 8 (by decide) fl_41 (fun _ h => h) rfl (ty := tyX4 8) (by decide +kernel) (rfl) (rfl) (Nat.le_of_ble_eq_true rfl) dX4_begin_78 (fun M1 H1 locs1 e1 hh => ?_)
        have hJD := hJD.put hP (by simp [imm]) (by simp [nref]) e1
        have hPH := mu_kp e1 (mp_ne hPH hP (by simp)) hPH
        have hWM := mu_kp e1 (mp_ne hWM hP (by simp)) hWM
        have hMT := mu_kp e1 (mp_ne hMT hP (by simp)) hMT
        have hWF := mu_kp e1 (mp_ne hWF hP (by simp)) hWF
        have hP := mu_at e1
        have hkp := hkp.put e1 (by simp)
        have hP : M1 P = some (.inr (4, [.ref J, .ref PH, .ref WM, .ref MT, .ref WF, .int (nI g2), .int (bI m2), .int 0, .int 0])) := hP
        have hM := hh.1
        exact hretv _ _ _ _ _ _ _ hh (⟨rfl, ⟨_, fw, fm, fz, by rw [if_neg q2]; exact hP, hPH, hWM, hMT, hWF, hne, fun k hk => by unfold hv0; rcases (show k = 0 ∨ k = 1 ∨ k = 2 by omega) with e | e | e <;> subst e; (rw [pk_uLn (by decide), pk_uLn (by decide), pk_uLs]; rfl); (rw [pk_uLn (by decide), pk_uLs]; simp [q2]); (rw [pk_uLs]; simp [q3]; exact hc3 q3), fun j hj => absurd hj (Nat.not_lt_zero _), fun j hj => absurd hj (Nat.not_lt_zero _), fun j hj => absurd hj (Nat.not_lt_zero _)⟩, hJD, hkp⟩) (by decide) (by decide) dX4_begin_81 rfl
    · exact absurd ((nI_eq (b := 2) (by omega) (by decide)).mp c_46) q2
  · skip
    have q2 : g2 = 2 := (nI_eq (b := 2) (by omega) (by decide)).mp c_16
    refine lv_lload hx hb dX4_begin_19 (lv_at hl 4 rfl) ?_
    refine lv_l2i hx hb dX4_begin_21 rfl ?_
    refine tpi (x' := nI b) (lN_i _) ?_
    refine lv_goto (tgt := 26) hx hb dX4_begin_22 (by decide) ?_
    refine m_put (ci := 4) (C := RX4) (T := TX4) (N := 9) (v := .int (nI b)) hx hb hts in_X4 tyX4 tyX4_ok nmX4 hown hK hh hP rfl 7 (by decide) fl_38 (fun _ h => h) rfl (ty := tyX4 7) (by decide +kernel) (rfl) (rfl) (Nat.le_of_ble_eq_true rfl) dX4_begin_26 (fun M1 H1 locs1 e1 hh => ?_)
    have hJD := hJD.put hP (by simp [imm]) (by simp [nref]) e1
    have hPH := mu_kp e1 (mp_ne hPH hP (by simp)) hPH
    have hWM := mu_kp e1 (mp_ne hWM hP (by simp)) hWM
    have hMT := mu_kp e1 (mp_ne hMT hP (by simp)) hMT
    have hWF := mu_kp e1 (mp_ne hWF hP (by simp)) hWF
    have hP := mu_at e1
    have hkp := hkp.put e1 (by simp)
    have hP : M1 P = some (.inr (4, [.ref J, .ref PH, .ref WM, .ref MT, .ref WF, .int (nI g2), .int (bI m2), .int (nI b), .int (nI mv)])) := hP
    have hM := hh.1
    refine lv_aload_n hx hb dX4_begin_29 rfl (lv_at hl 0 rfl) ?_
    refine m_get (ci := 4) (C := RX4) (T := TX4) (N := 9) (v := .ref PH) hx hb hts in_X4 hown hK hM hP rfl 1 (by decide) fl_11 (fun _ h => h) rfl dX4_begin_30 ?_
    refine lv_iconst (v := 0) hx hb dX4_begin_33 (by decide) ?_
    refine lv_lload_n hx hb dX4_begin_34 rfl (lv_at hl 3 rfl) ?_
    refine m_lastN (k := 0) hx hb hK hh hPH (rfl) (by decide) (by decide) dX4_begin_35 (fun M1 H1 locs1 e1 hh => ?_)
    have hJD := hJD.put hPH (by simp [imm]) (by simp [nref]) e1
    have hP := mu_kp e1 (mp_ne hP hPH (by simp)) hP
    have hWM := mu_kp e1 (mp_ne hWM hPH (by simp)) hWM
    have hMT := mu_kp e1 (mp_ne hMT hPH (by simp)) hMT
    have hWF := mu_kp e1 (mp_ne hWF hPH (by simp)) hWF
    have hPH := mu_at e1
    have hkp := hkp.put e1 (by simp)
    have hPH : M1 PH = some (.inl (cA 0, 3, .inr (.inl (vp_updL fh 0 (lN a))))) := hPH
    have hM := hh.1
    refine lv_aload_n hx hb dX4_begin_36 rfl (lv_at hl 0 rfl) ?_
    refine m_get (ci := 4) (C := RX4) (T := TX4) (N := 9) (v := .ref PH) hx hb hts in_X4 hown hK hM hP rfl 1 (by decide) fl_11 (fun _ h => h) rfl dX4_begin_37 ?_
    refine lv_iconst (v := 1) hx hb dX4_begin_40 (by decide) ?_
    refine lv_aload_n hx hb dX4_begin_41 rfl (lv_at hl 0 rfl) ?_
    refine m_get (ci := 4) (C := RX4) (T := TX4) (N := 9) (v := .int (nI g2)) hx hb hts in_X4 hown hK hM hP rfl 5 (by decide) fl_26 (fun _ h => h) rfl dX4_begin_42 ?_
    refine lv_iconst (v := 2) hx hb dX4_begin_45 (by decide) ?_
    refine bi_ne (tgt := 53) hx hb dX4_begin_46 (by decide) (fun c_46 n_46 => ?_) (fun c_46 n_46 => ?_)
    · exact absurd (by rw [q2]; rfl) c_46
    · skip
      refine lv_lconst (v := 0) hx hb dX4_begin_49 (by decide) ?_
      refine lv_goto (tgt := 55) hx hb dX4_begin_50 (by decide) ?_
      refine m_lastN (k := 1) hx hb hK hh hPH (rfl) (by decide) (by decide) dX4_begin_55 (fun M1 H1 locs1 e1 hh => ?_)
      have hJD := hJD.put hPH (by simp [imm]) (by simp [nref]) e1
      have hP := mu_kp e1 (mp_ne hP hPH (by simp)) hP
      have hWM := mu_kp e1 (mp_ne hWM hPH (by simp)) hWM
      have hMT := mu_kp e1 (mp_ne hMT hPH (by simp)) hMT
      have hWF := mu_kp e1 (mp_ne hWF hPH (by simp)) hWF
      have hPH := mu_at e1
      have hkp := hkp.put e1 (by simp)
      have hPH : M1 PH = some (.inl (cA 0, 3, .inr (.inl (vp_updL (vp_updL fh 0 (lN a)) 1 0)))) := hPH
      have hM := hh.1
      refine lv_aload_n hx hb dX4_begin_56 rfl (lv_at hl 0 rfl) ?_
      refine m_get (ci := 4) (C := RX4) (T := TX4) (N := 9) (v := .ref PH) hx hb hts in_X4 hown hK hM hP rfl 1 (by decide) fl_11 (fun _ h => h) rfl dX4_begin_57 ?_
      refine lv_iconst (v := 2) hx hb dX4_begin_60 (by decide) ?_
      refine lv_aload_n hx hb dX4_begin_61 rfl (lv_at hl 0 rfl) ?_
      refine m_get (ci := 4) (C := RX4) (T := TX4) (N := 9) (v := .int (nI g2)) hx hb hts in_X4 hown hK hM hP rfl 5 (by decide) fl_26 (fun _ h => h) rfl dX4_begin_62 ?_
      refine lv_iconst (v := 3) hx hb dX4_begin_65 (by decide) ?_
      refine bi_ne (tgt := 74) hx hb dX4_begin_66 (by decide) (fun c_66 n_66 => ?_) (fun c_66 n_66 => ?_)
      · skip
        have q3 : ¬ g2 = 3 := fun z => c_66 (by rw [z]; rfl)
        refine lv_lconst (v := 0) hx hb dX4_begin_74 (by decide) ?_
        refine m_lastN (k := 2) hx hb hK hh hPH (rfl) (by decide) (by decide) dX4_begin_75 (fun M1 H1 locs1 e1 hh => ?_)
        have hJD := hJD.put hPH (by simp [imm]) (by simp [nref]) e1
        have hP := mu_kp e1 (mp_ne hP hPH (by simp)) hP
        have hWM := mu_kp e1 (mp_ne hWM hPH (by simp)) hWM
        have hMT := mu_kp e1 (mp_ne hMT hPH (by simp)) hMT
        have hWF := mu_kp e1 (mp_ne hWF hPH (by simp)) hWF
        have hPH := mu_at e1
        have hkp := hkp.put e1 (by simp)
        have hPH : M1 PH = some (.inl (cA 0, 3, .inr (.inl (vp_updL (vp_updL (vp_updL fh 0 (lN a)) 1 0) 2 0)))) := hPH
        have hM := hh.1
        refine lv_aload_n hx hb dX4_begin_76 rfl (lv_at hl 0 rfl) ?_
        refine lv_iconst (v := 0) hx hb dX4_begin_77 (by decide) ?_
        refine m_put (ci := 4) (C := RX4) (T := TX4) (N := 9) (v := .int 0) hx hb hts in_X4 tyX4 tyX4_ok nmX4 hown hK hh hP rfl 8 (by decide) fl_41 (fun _ h => h) rfl (ty := tyX4 8) (by decide +kernel) (rfl) (rfl) (Nat.le_of_ble_eq_true rfl) dX4_begin_78 (fun M1 H1 locs1 e1 hh => ?_)
        have hJD := hJD.put hP (by simp [imm]) (by simp [nref]) e1
        have hPH := mu_kp e1 (mp_ne hPH hP (by simp)) hPH
        have hWM := mu_kp e1 (mp_ne hWM hP (by simp)) hWM
        have hMT := mu_kp e1 (mp_ne hMT hP (by simp)) hMT
        have hWF := mu_kp e1 (mp_ne hWF hP (by simp)) hWF
        have hP := mu_at e1
        have hkp := hkp.put e1 (by simp)
        have hP : M1 P = some (.inr (4, [.ref J, .ref PH, .ref WM, .ref MT, .ref WF, .int (nI g2), .int (bI m2), .int (nI b), .int 0])) := hP
        have hM := hh.1
        exact hretv _ _ _ _ _ _ _ hh (⟨rfl, ⟨_, fw, fm, fz, by rw [if_pos q2]; exact hP, hPH, hWM, hMT, hWF, hne, fun k hk => by unfold hv0; rcases (show k = 0 ∨ k = 1 ∨ k = 2 by omega) with e | e | e <;> subst e; (rw [pk_uLn (by decide), pk_uLn (by decide), pk_uLs]; rfl); (rw [pk_uLn (by decide), pk_uLs]; simp [q2]; rfl); (rw [pk_uLs]; simp [q3]; rfl), fun j hj => absurd hj (Nat.not_lt_zero _), fun j hj => absurd hj (Nat.not_lt_zero _), fun j hj => absurd hj (Nat.not_lt_zero _)⟩, hJD, hkp⟩) (by decide) (by decide) dX4_begin_81 rfl
      · skip
        have q3 : g2 = 3 := (nI_eq (b := 3) (by omega) (by decide)).mp c_66
        refine lv_lload hx hb dX4_begin_69 (lv_at hl 5 rfl) ?_
        refine lv_goto (tgt := 75) hx hb dX4_begin_71 (by decide) ?_
        refine m_lastN (k := 2) hx hb hK hh hPH (rfl) (by decide) (by decide) dX4_begin_75 (fun M1 H1 locs1 e1 hh => ?_)
        have hJD := hJD.put hPH (by simp [imm]) (by simp [nref]) e1
        have hP := mu_kp e1 (mp_ne hP hPH (by simp)) hP
        have hWM := mu_kp e1 (mp_ne hWM hPH (by simp)) hWM
        have hMT := mu_kp e1 (mp_ne hMT hPH (by simp)) hMT
        have hWF := mu_kp e1 (mp_ne hWF hPH (by simp)) hWF
        have hPH := mu_at e1
        have hkp := hkp.put e1 (by simp)
        have hPH : M1 PH = some (.inl (cA 0, 3, .inr (.inl (vp_updL (vp_updL (vp_updL fh 0 (lN a)) 1 0) 2 c0)))) := hPH
        have hM := hh.1
        refine lv_aload_n hx hb dX4_begin_76 rfl (lv_at hl 0 rfl) ?_
        refine lv_iconst (v := 0) hx hb dX4_begin_77 (by decide) ?_
        refine m_put (ci := 4) (C := RX4) (T := TX4) (N := 9) (v := .int 0) hx hb hts in_X4 tyX4 tyX4_ok nmX4 hown hK hh hP rfl 8 (by decide) fl_41 (fun _ h => h) rfl (ty := tyX4 8) (by decide +kernel) (rfl) (rfl) (Nat.le_of_ble_eq_true rfl) dX4_begin_78 (fun M1 H1 locs1 e1 hh => ?_)
        have hJD := hJD.put hP (by simp [imm]) (by simp [nref]) e1
        have hPH := mu_kp e1 (mp_ne hPH hP (by simp)) hPH
        have hWM := mu_kp e1 (mp_ne hWM hP (by simp)) hWM
        have hMT := mu_kp e1 (mp_ne hMT hP (by simp)) hMT
        have hWF := mu_kp e1 (mp_ne hWF hP (by simp)) hWF
        have hP := mu_at e1
        have hkp := hkp.put e1 (by simp)
        have hP : M1 P = some (.inr (4, [.ref J, .ref PH, .ref WM, .ref MT, .ref WF, .int (nI g2), .int (bI m2), .int (nI b), .int 0])) := hP
        have hM := hh.1
        exact hretv _ _ _ _ _ _ _ hh (⟨rfl, ⟨_, fw, fm, fz, by rw [if_pos q2]; exact hP, hPH, hWM, hMT, hWF, hne, fun k hk => by unfold hv0; rcases (show k = 0 ∨ k = 1 ∨ k = 2 by omega) with e | e | e <;> subst e; (rw [pk_uLn (by decide), pk_uLn (by decide), pk_uLs]; rfl); (rw [pk_uLn (by decide), pk_uLs]; simp [q2]; rfl); (rw [pk_uLs]; simp [q3]; exact hc3 q3), fun j hj => absurd hj (Nat.not_lt_zero _), fun j hj => absurd hj (Nat.not_lt_zero _), fun j hj => absurd hj (Nat.not_lt_zero _)⟩, hJD, hkp⟩) (by decide) (by decide) dX4_begin_81 rfl
set_option maxHeartbeats 1000000 in
set_option maxRecDepth 100000 in
theorem k_X4_take (l : Launch) (D : va_G) (cA : Nat → ClassId) (M : mp) (P J PH WM MT WF g t mv : Nat) (mi : Bool) (hv wh ma : Nat → Nat) (fa : Nat → Bool) (TG GO SG BG TM SM : Nat) (w n : Nat)  (hpw : pw cA M P J PH WM MT WF g t mv mi hv wh ma fa) (hJD : jdW cA M J TG GO SG BG TM SM) (hok : okB g t mi hv) (hmv : mv < 200) (hwl : w ≤ 3) (hn2 : n ≤ 1000000000000) (htn : ∀ k, k < hcF g → tkF g w k = true → n ≤ hv k) (hlm : ma (mv - 1) ≤ 1000000000000)  : MC l D cA yX4_take wsX4_take 6 140 6 484 [.ref P, .int (nI w), .long (lN n)] M (fun r M' => r = none ∧ pw cA M' P J PH WM MT WF g t (mv + 1) mi (hvT g w n hv) (va_up wh mv w) (va_up ma mv n) (va_up fa mv (wnF g mi t hv (bdV g t mv (hv 0) (ma (mv - 1))) && wnF g mi t (hvT g w n hv) (bdV g t (mv + 1) ((hvT g w n hv) 0) n))) ∧ jdW cA M' J TG GO SG BG TM SM ∧ kpL M M' [P, PH, WM, MT, WF, SM, TM]) := by
  refine MC.of (cc := cX4_take) (maxL := 5) (ret := none) (by decide) rfl (Nat.le_of_ble_eq_true rfl) ?_
  intro p e s m args below meth c Q ls B hh hl hretv hreti hretz hretl hreta
  obtain ⟨hx, hb, hown, hts, hml, hK, hin⟩ := B
  have hM := hh.1
  have hM_0 := hh.1
  have hkp : kpL M M [P, PH, WM, MT, WF, SM, TM] := kpL.rf M _
  have hown : s.vm.findClass RX4 = some m.cls := hown
  have hl : lv_has ls 5 [(0, .ref P), (1, .int (nI w)), (2, .long (lN n))] := hl
  have in_X4 : ∀ w ∈ wsX40, w ∈ wsX4_take := by decide +kernel
  have fl_41 := hts (.fieldLink RX4 41 "GoldHeaps$Play" "made" "I") (by decide +kernel)
  have fl_15 := hts (.fieldLink RX4 15 "GoldHeaps$Play" "whichMoved" "[I") (by decide +kernel)
  have fl_19 := hts (.fieldLink RX4 19 "GoldHeaps$Play" "manyTaken" "[J") (by decide +kernel)
  have fl_22 := hts (.fieldLink RX4 22 "GoldHeaps$Play" "wasFault" "[Z") (by decide +kernel)
  obtain ⟨fh, fw, fm, fz, hP, hPH, hWM, hMT, hWF, hne, hfh, hfw, hfm, hfz⟩ := hpw
  have hg3 := hok.1
  refine lv_aload_n hx hb dX4_take_0 rfl (lv_at hl 0 rfl) ?_
  refine m_get (ci := 4) (C := RX4) (T := TX4) (N := 9) (v := .int (nI mv)) hx hb hts in_X4 hown hK hM hP rfl 8 (by decide) fl_41 (fun _ h => h) rfl dX4_take_1 ?_
  refine lv_sipush (v := 200) hx hb dX4_take_4 (by decide) ?_
  refine bi_lt (tgt := 11) hx hb dX4_take_7 (by decide) (fun c_7 n_7 => ?_) (fun c_7 n_7 => ?_)
  · skip
    refine lv_aload_n hx hb dX4_take_11 rfl (lv_at hl 0 rfl) ?_
    refine cmV (As := []) (rest := []) (k_X4_isWon l D cA _ P J PH WM MT WF g t mv mi TG GO SG BG TM SM fh fm hv (ma (mv - 1)) hP hg3 hPH hMT hfh (fun h => hfm (mv - 1) (by omega)) hlm (by omega) hok hJD) ⟨hx, hb, hml, hown, hts⟩ (cwV 0 hts gX4_take_X4_isWon rfl rfl rfl (by decide +kernel) ⟨by decide, by decide⟩) hK hh hP rfl rfl hl.1 rfl (Nat.le_of_ble_eq_true rfl) dX4_take_12 ⟨by decide, by decide⟩ (fun v9 M1 H1 locs1 hpost hh hz9 hk9 hn9 => ?_)
    obtain ⟨rfl, hJD1, hkc⟩ := hpost
    obtain ⟨fs0, hSM, -⟩ := id hJD.2.2.1
    obtain ⟨ft0, hTM, -⟩ := id hJD.2.2.2
    have hJD := hJD1
    have hP : M1 P = some (.inr (4, [.ref J, .ref PH, .ref WM, .ref MT, .ref WF, .int (nI g), .int (bI mi), .int (nI t), .int (nI mv)])) := hkc _ _ hP (ni2 (mp_ne hP hSM (by simp)) (mp_ne hP hTM (by simp)))
    have hPH : M1 PH = some (.inl (cA 0, 3, .inr (.inl fh))) := hkc _ _ hPH (ni2 (mp_ne hPH hSM (by simp)) (mp_ne hPH hTM (by simp)))
    have hWM : M1 WM = some (.inl (cA 1, 200, .inl fw)) := hkc _ _ hWM (ni2 (mp_ne hWM hSM (by simp)) (mp_ne hWM hTM (by simp)))
    have hMT : M1 MT = some (.inl (cA 0, 200, .inr (.inl fm))) := hkc _ _ hMT (ni2 (mp_ne hMT hSM (by simp)) (mp_ne hMT hTM (by simp)))
    have hWF : M1 WF = some (.inl (cA 2, 200, .inl fz)) := hkc _ _ hWF (ni2 (mp_ne hWF hSM (by simp)) (mp_ne hWF hTM (by simp)))
    have hkp := hkp.call hkc (by simp)
    have hM := hh.1
    refine W.widen (k := 3) (n := 242) (by decide) (by decide) ?_
    refine W.eq (g2 := F0 m 15 ls [.int (bI (wnF g mi t hv (bdV g t mv (hv 0) (ma (mv - 1)))))]) rfl ?_
    refine lv_istore (lv' := [(4, .int (bI (wnF g mi t hv (bdV g t mv (hv 0) (ma (mv - 1)))))), (0, .ref P), (1, .int (nI w)), (2, .long (lN n))]) hx hb dX4_take_15 hl (by decide) rfl (fun ls hl => ?_)
    refine lv_aload_n hx hb dX4_take_17 rfl (lv_at hl 1 rfl) ?_
    refine m_get (ci := 4) (C := RX4) (T := TX4) (N := 9) (v := .ref WM) hx hb hts in_X4 hown hK hM hP rfl 2 (by decide) fl_15 (fun _ h => h) rfl dX4_take_18 ?_
    refine lv_aload_n hx hb dX4_take_21 rfl (lv_at hl 1 rfl) ?_
    refine m_get (ci := 4) (C := RX4) (T := TX4) (N := 9) (v := .int (nI mv)) hx hb hts in_X4 hown hK hM hP rfl 8 (by decide) fl_41 (fun _ h => h) rfl dX4_take_22 ?_
    refine lv_iload_n hx hb dX4_take_25 rfl (lv_at hl 2 rfl) ?_
    refine m_iastN (k := mv) hx hb hK hh hWM (rfl) (by omega) (by decide) dX4_take_26 (fun M1 H1 locs1 e1 hh => ?_)
    have hJD := hJD.put hWM (by simp [imm]) (by simp [nref]) e1
    have hP := mu_kp e1 (mp_ne hP hWM (by simp)) hP
    have hPH := mu_kp e1 (mp_ne hPH hWM (by simp)) hPH
    have hMT := mu_kp e1 (mp_ne hMT hWM (by simp)) hMT
    have hWF := mu_kp e1 (hne.symm) hWF
    have hWM := mu_at e1
    have hkp := hkp.put e1 (by simp)
    have hWM : M1 WM = some (.inl (cA 1, 200, .inl (upd fw mv (nI w)))) := hWM
    have hM := hh.1
    refine lv_aload_n hx hb dX4_take_27 rfl (lv_at hl 1 rfl) ?_
    refine m_get (ci := 4) (C := RX4) (T := TX4) (N := 9) (v := .ref MT) hx hb hts in_X4 hown hK hM hP rfl 3 (by decide) fl_19 (fun _ h => h) rfl dX4_take_28 ?_
    refine lv_aload_n hx hb dX4_take_31 rfl (lv_at hl 1 rfl) ?_
    refine m_get (ci := 4) (C := RX4) (T := TX4) (N := 9) (v := .int (nI mv)) hx hb hts in_X4 hown hK hM hP rfl 8 (by decide) fl_41 (fun _ h => h) rfl dX4_take_32 ?_
    refine lv_lload_n hx hb dX4_take_35 rfl (lv_at hl 3 rfl) ?_
    refine m_lastN (k := mv) hx hb hK hh hMT (rfl) (by omega) (by decide) dX4_take_36 (fun M1 H1 locs1 e1 hh => ?_)
    have hJD := hJD.put hMT (by simp [imm]) (by simp [nref]) e1
    have hP := mu_kp e1 (mp_ne hP hMT (by simp)) hP
    have hPH := mu_kp e1 (mp_ne hPH hMT (by simp)) hPH
    have hWM := mu_kp e1 (mp_ne hWM hMT (by simp)) hWM
    have hWF := mu_kp e1 (mp_ne hWF hMT (by simp)) hWF
    have hMT := mu_at e1
    have hkp := hkp.put e1 (by simp)
    have hMT : M1 MT = some (.inl (cA 0, 200, .inr (.inl (vp_updL fm mv (lN n))))) := hMT
    have hM := hh.1
    refine lv_aload_n hx hb dX4_take_37 rfl (lv_at hl 1 rfl) ?_
    refine lv_iload_n hx hb dX4_take_38 rfl (lv_at hl 2 rfl) ?_
    refine lv_lload_n hx hb dX4_take_39 rfl (lv_at hl 3 rfl) ?_
    refine lv_lneg hx hb dX4_take_40 ?_
    refine cmV (As := [.int (nI w), .long ((-lN n))]) (rest := []) (k_X4_addToHeaps l D cA _ P J PH WM MT WF g t mv mi fh w (-lN n) hP hg3 hPH hwl) ⟨hx, hb, hml, hown, hts⟩ (cwV 2 hts gX4_take_X4_addToHeaps rfl rfl rfl (by decide +kernel) ⟨by decide, by decide⟩) hK hh hP rfl rfl hl.1 rfl (Nat.le_of_ble_eq_true rfl) dX4_take_41 ⟨by decide, by decide⟩ (fun v9 M1 H1 locs1 hpost hh hz9 hk9 hn9 => ?_)
    obtain ⟨rfl, ⟨fh2, hPH1, hfh2⟩, hkc⟩ := hpost
    have hJD := hJD.k1 hkc hPH (by simp [imm]) (by simp [nref])
    have hfh3 : ∀ k, k < 3 → fh2 k = lN (hvT g w n hv k) := fun k hk => by rw [hfh2 k]; unfold hvT; by_cases e : k < hcF g ∧ tkF g w k = true; (rw [if_pos e, if_pos e, hfh k hk]; exact lN_neg (htn k e.1 e.2)); (rw [if_neg e, if_neg e]; exact hfh k hk)
    have hP : M1 P = some (.inr (4, [.ref J, .ref PH, .ref WM, .ref MT, .ref WF, .int (nI g), .int (bI mi), .int (nI t), .int (nI mv)])) := hkc _ _ hP (ni1 (mp_ne hP hPH (by simp)))
    have hWM : M1 WM = some (.inl (cA 1, 200, .inl (upd fw mv (nI w)))) := hkc _ _ hWM (ni1 (mp_ne hWM hPH (by simp)))
    have hMT : M1 MT = some (.inl (cA 0, 200, .inr (.inl (vp_updL fm mv (lN n))))) := hkc _ _ hMT (ni1 (mp_ne hMT hPH (by simp)))
    have hWF : M1 WF = some (.inl (cA 2, 200, .inl fz)) := hkc _ _ hWF (ni1 (mp_ne hWF hPH (by simp)))
    have hPH : M1 PH = some (.inl (cA 0, 3, .inr (.inl fh2))) := hPH1
    have hkp := hkp.call hkc (by simp)
    have hM := hh.1
    refine W.eq (g2 := F0 m 44 ls []) rfl ?_
    refine lv_aload_n hx hb dX4_take_44 rfl (lv_at hl 1 rfl) ?_
    refine lv_dup hx hb dX4_take_45 rfl ?_
    refine m_get (ci := 4) (C := RX4) (T := TX4) (N := 9) (v := .int (nI mv)) hx hb hts in_X4 hown hK hM hP rfl 8 (by decide) fl_41 (fun _ h => h) rfl dX4_take_46 ?_
    refine lv_iconst (v := 1) hx hb dX4_take_49 (by decide) ?_
    refine lv_iadd hx hb dX4_take_50 ?_
    refine tpi (x' := nI (mv + 1)) (nI_1 mv) ?_
    refine m_put (ci := 4) (C := RX4) (T := TX4) (N := 9) (v := .int (nI (mv + 1))) hx hb hts in_X4 tyX4 tyX4_ok nmX4 hown hK hh hP rfl 8 (by decide) fl_41 (fun _ h => h) rfl (ty := tyX4 8) (by decide +kernel) (rfl) (rfl) (Nat.le_of_ble_eq_true rfl) dX4_take_51 (fun M1 H1 locs1 e1 hh => ?_)
    have hJD := hJD.put hP (by simp [imm]) (by simp [nref]) e1
    have hWM := mu_kp e1 (mp_ne hWM hP (by simp)) hWM
    have hMT := mu_kp e1 (mp_ne hMT hP (by simp)) hMT
    have hWF := mu_kp e1 (mp_ne hWF hP (by simp)) hWF
    have hPH := mu_kp e1 (mp_ne hPH hP (by simp)) hPH
    have hP := mu_at e1
    have hkp := hkp.put e1 (by simp)
    have hP : M1 P = some (.inr (4, [.ref J, .ref PH, .ref WM, .ref MT, .ref WF, .int (nI g), .int (bI mi), .int (nI t), .int (nI (mv + 1))])) := hP
    have hM := hh.1
    refine lv_aload_n hx hb dX4_take_54 rfl (lv_at hl 1 rfl) ?_
    refine m_get (ci := 4) (C := RX4) (T := TX4) (N := 9) (v := .ref WF) hx hb hts in_X4 hown hK hM hP rfl 4 (by decide) fl_22 (fun _ h => h) rfl dX4_take_55 ?_
    refine lv_aload_n hx hb dX4_take_58 rfl (lv_at hl 1 rfl) ?_
    refine m_get (ci := 4) (C := RX4) (T := TX4) (N := 9) (v := .int (nI (mv + 1))) hx hb hts in_X4 hown hK hM hP rfl 8 (by decide) fl_41 (fun _ h => h) rfl dX4_take_59 ?_
    refine lv_iconst (v := 1) hx hb dX4_take_62 (by decide) ?_
    refine lv_isub hx hb dX4_take_63 ?_
    refine tpi (x' := nI mv) (nD_succ mv) ?_
    refine lv_iload hx hb dX4_take_64 (lv_at hl 0 rfl) ?_
    refine bz_eq (tgt := 80) hx hb dX4_take_66 (by decide) (fun c_66 n_66 => ?_) (fun c_66 n_66 => ?_)
    · skip
      have hw0 := bI_eq0 c_66
      refine lv_iconst (v := 0) hx hb dX4_take_80 (by decide) ?_
      refine m_zastN (k := mv) hx hb hK hh hWF (Or.inl rfl) (rfl) (by omega) (by decide) dX4_take_81 (fun M1 H1 locs1 e1 hh => ?_)
      have hJD := hJD.put hWF (by simp [imm]) (by simp [nref]) e1
      have hP := mu_kp e1 (mp_ne hP hWF (by simp)) hP
      have hWM := mu_kp e1 (hne) hWM
      have hMT := mu_kp e1 (mp_ne hMT hWF (by simp)) hMT
      have hPH := mu_kp e1 (mp_ne hPH hWF (by simp)) hPH
      have hWF := mu_at e1
      have hkp := hkp.put e1 (by simp)
      have hWF : M1 WF = some (.inl (cA 2, 200, .inl (upd fz mv 0))) := hWF
      have hM := hh.1
      exact hretv _ _ _ _ _ _ _ hh (⟨rfl, ⟨fh2, _, _, _, hP, hPH, hWM, hMT, hWF, hne, hfh3, fun j hj => by by_cases e : j = mv; (rw [e, pk_us, va_up_self]); (rw [pk_un e, va_up_ne _ _ e]; exact hfw j (by omega)), fun j hj => by by_cases e : j = mv; (rw [e, pk_uLs, va_up_self]); (rw [pk_uLn e, va_up_ne _ _ e]; exact hfm j (by omega)), fun j hj => by by_cases e : j = mv; (rw [e, pk_us, va_up_self]; rw [hw0]; rfl); (rw [pk_un e, va_up_ne _ _ e]; exact hfz j (by omega))⟩, hJD, hkp⟩) (by decide) (by decide) dX4_take_82 rfl
    · skip
      have hw0 := bI_ne0 c_66
      refine lv_aload_n hx hb dX4_take_69 rfl (lv_at hl 1 rfl) ?_
      refine cmV (As := []) (rest := [.int (nI mv), .ref WF]) (k_X4_isWon l D cA _ P J PH WM MT WF g t (mv + 1) mi TG GO SG BG TM SM fh2 (vp_updL fm mv (lN n)) (hvT g w n hv) n hP hg3 hPH hMT hfh3 (fun _ => by rw [show mv + 1 - 1 = mv by omega, pk_uLs]) hn2 (by omega) (hvT_okB hok) hJD) ⟨hx, hb, hml, hown, hts⟩ (cwV 0 hts gX4_take_X4_isWon rfl rfl rfl (by decide +kernel) ⟨by decide, by decide⟩) hK hh hP rfl rfl hl.1 rfl (Nat.le_of_ble_eq_true rfl) dX4_take_70 ⟨by decide, by decide⟩ (fun v9 M1 H1 locs1 hpost hh hz9 hk9 hn9 => ?_)
      obtain ⟨rfl, hJD1, hkc⟩ := hpost
      obtain ⟨fs0, hSM, -⟩ := id hJD.2.2.1
      obtain ⟨ft0, hTM, -⟩ := id hJD.2.2.2
      have hJD := hJD1
      have hP : M1 P = some (.inr (4, [.ref J, .ref PH, .ref WM, .ref MT, .ref WF, .int (nI g), .int (bI mi), .int (nI t), .int (nI (mv + 1))])) := hkc _ _ hP (ni2 (mp_ne hP hSM (by simp)) (mp_ne hP hTM (by simp)))
      have hPH : M1 PH = some (.inl (cA 0, 3, .inr (.inl fh2))) := hkc _ _ hPH (ni2 (mp_ne hPH hSM (by simp)) (mp_ne hPH hTM (by simp)))
      have hWM : M1 WM = some (.inl (cA 1, 200, .inl (upd fw mv (nI w)))) := hkc _ _ hWM (ni2 (mp_ne hWM hSM (by simp)) (mp_ne hWM hTM (by simp)))
      have hMT : M1 MT = some (.inl (cA 0, 200, .inr (.inl (vp_updL fm mv (lN n))))) := hkc _ _ hMT (ni2 (mp_ne hMT hSM (by simp)) (mp_ne hMT hTM (by simp)))
      have hWF : M1 WF = some (.inl (cA 2, 200, .inl fz)) := hkc _ _ hWF (ni2 (mp_ne hWF hSM (by simp)) (mp_ne hWF hTM (by simp)))
      have hkp := hkp.call hkc (by simp)
      have hM := hh.1
      refine W.widen (k := 6) (n := 484) (by decide) (by decide) ?_
      refine W.eq (g2 := F0 m 73 ls [.int (bI (wnF g mi t (hvT g w n hv) (bdV g t (mv + 1) ((hvT g w n hv) 0) n))), .int (nI mv), .ref WF]) rfl ?_
      refine bz_eq (tgt := 80) hx hb dX4_take_73 (by decide) (fun c_73 n_73 => ?_) (fun c_73 n_73 => ?_)
      · skip
        have hw1 := bI_eq0 c_73
        refine lv_iconst (v := 0) hx hb dX4_take_80 (by decide) ?_
        refine m_zastN (k := mv) hx hb hK hh hWF (Or.inl rfl) (rfl) (by omega) (by decide) dX4_take_81 (fun M1 H1 locs1 e1 hh => ?_)
        have hJD := hJD.put hWF (by simp [imm]) (by simp [nref]) e1
        have hP := mu_kp e1 (mp_ne hP hWF (by simp)) hP
        have hPH := mu_kp e1 (mp_ne hPH hWF (by simp)) hPH
        have hWM := mu_kp e1 (hne) hWM
        have hMT := mu_kp e1 (mp_ne hMT hWF (by simp)) hMT
        have hWF := mu_at e1
        have hkp := hkp.put e1 (by simp)
        have hWF : M1 WF = some (.inl (cA 2, 200, .inl (upd fz mv 0))) := hWF
        have hM := hh.1
        exact hretv _ _ _ _ _ _ _ hh (⟨rfl, ⟨fh2, _, _, _, hP, hPH, hWM, hMT, hWF, hne, hfh3, fun j hj => by by_cases e : j = mv; (rw [e, pk_us, va_up_self]); (rw [pk_un e, va_up_ne _ _ e]; exact hfw j (by omega)), fun j hj => by by_cases e : j = mv; (rw [e, pk_uLs, va_up_self]); (rw [pk_uLn e, va_up_ne _ _ e]; exact hfm j (by omega)), fun j hj => by by_cases e : j = mv; (rw [e, pk_us, va_up_self]; rw [hw0]; rw [hw1]; rfl); (rw [pk_un e, va_up_ne _ _ e]; exact hfz j (by omega))⟩, hJD, hkp⟩) (by decide) (by decide) dX4_take_82 rfl
      · skip
        have hw1 := bI_ne0 c_73
        refine lv_iconst (v := 1) hx hb dX4_take_76 (by decide) ?_
        refine lv_goto (tgt := 81) hx hb dX4_take_77 (by decide) ?_
        refine m_zastN (k := mv) hx hb hK hh hWF (Or.inr rfl) (rfl) (by omega) (by decide) dX4_take_81 (fun M1 H1 locs1 e1 hh => ?_)
        have hJD := hJD.put hWF (by simp [imm]) (by simp [nref]) e1
        have hP := mu_kp e1 (mp_ne hP hWF (by simp)) hP
        have hPH := mu_kp e1 (mp_ne hPH hWF (by simp)) hPH
        have hWM := mu_kp e1 (hne) hWM
        have hMT := mu_kp e1 (mp_ne hMT hWF (by simp)) hMT
        have hWF := mu_at e1
        have hkp := hkp.put e1 (by simp)
        have hWF : M1 WF = some (.inl (cA 2, 200, .inl (upd fz mv 1))) := hWF
        have hM := hh.1
        exact hretv _ _ _ _ _ _ _ hh (⟨rfl, ⟨fh2, _, _, _, hP, hPH, hWM, hMT, hWF, hne, hfh3, fun j hj => by by_cases e : j = mv; (rw [e, pk_us, va_up_self]); (rw [pk_un e, va_up_ne _ _ e]; exact hfw j (by omega)), fun j hj => by by_cases e : j = mv; (rw [e, pk_uLs, va_up_self]); (rw [pk_uLn e, va_up_ne _ _ e]; exact hfm j (by omega)), fun j hj => by by_cases e : j = mv; (rw [e, pk_us, va_up_self]; rw [hw0]; rw [hw1]; rfl); (rw [pk_un e, va_up_ne _ _ e]; exact hfz j (by omega))⟩, hJD, hkp⟩) (by decide) (by decide) dX4_take_82 rfl
  · exact absurd ((nI_leI (a := 200) (by decide) (by omega)).mp c_7) (by omega)
set_option maxHeartbeats 1000000 in
set_option maxRecDepth 100000 in
theorem k_X4_takeBack (l : Launch) (D : va_G) (cA : Nat → ClassId) (M : mp) (P J PH WM MT WF g t mv : Nat) (mi : Bool) (hv wh ma : Nat → Nat) (fa : Nat → Bool) (TG GO SG BG TM SM : Nat) (mq : Nat)  (hpw : pw cA M P J PH WM MT WF g t mv mi hv wh ma fa) (hJD : jdW cA M J TG GO SG BG TM SM) (hg3 : g ≤ 3) (hmv : mv = mq + 1) (hm2 : mv ≤ 200) (hwl : wh mq ≤ 3)  : MC l D cA yX4_takeBack wsX4_takeBack 3 66 0 0 [.ref P] M (fun r M' => r = some (.int 1) ∧ pw cA M' P J PH WM MT WF g t mq mi (hvB g (wh mq) (ma mq) hv) wh ma fa ∧ jdW cA M' J TG GO SG BG TM SM ∧ kpL M M' [P, PH]) := by
  refine MC.of (cc := cX4_takeBack) (maxL := 1) (ret := (some .boolean)) (by decide) rfl (Nat.le_of_ble_eq_true rfl) ?_
  intro p e s m args below meth c Q ls B hh hl hretv hreti hretz hretl hreta
  obtain ⟨hx, hb, hown, hts, hml, hK, hin⟩ := B
  have hM := hh.1
  have hM_0 := hh.1
  have hkp : kpL M M [P, PH] := kpL.rf M _
  have hown : s.vm.findClass RX4 = some m.cls := hown
  have hl : lv_has ls 1 [(0, .ref P)] := hl
  have in_X4 : ∀ w ∈ wsX40, w ∈ wsX4_takeBack := by decide +kernel
  have fl_41 := hts (.fieldLink RX4 41 "GoldHeaps$Play" "made" "I") (by decide +kernel)
  have fl_15 := hts (.fieldLink RX4 15 "GoldHeaps$Play" "whichMoved" "[I") (by decide +kernel)
  have fl_19 := hts (.fieldLink RX4 19 "GoldHeaps$Play" "manyTaken" "[J") (by decide +kernel)
  obtain ⟨fh, fw, fm, fz, hP, hPH, hWM, hMT, hWF, hne, hfh, hfw, hfm, hfz⟩ := hpw
  refine lv_aload_n hx hb dX4_takeBack_0 rfl (lv_at hl 0 rfl) ?_
  refine m_get (ci := 4) (C := RX4) (T := TX4) (N := 9) (v := .int (nI mv)) hx hb hts in_X4 hown hK hM hP rfl 8 (by decide) fl_41 (fun _ h => h) rfl dX4_takeBack_1 ?_
  refine bz_gt (tgt := 9) hx hb dX4_takeBack_4 (by decide) (fun c_4 n_4 => ?_) (fun c_4 n_4 => ?_)
  · skip
    refine lv_aload_n hx hb dX4_takeBack_9 rfl (lv_at hl 0 rfl) ?_
    refine lv_dup hx hb dX4_takeBack_10 rfl ?_
    refine m_get (ci := 4) (C := RX4) (T := TX4) (N := 9) (v := .int (nI mv)) hx hb hts in_X4 hown hK hM hP rfl 8 (by decide) fl_41 (fun _ h => h) rfl dX4_takeBack_11 ?_
    refine lv_iconst (v := 1) hx hb dX4_takeBack_14 (by decide) ?_
    refine lv_isub hx hb dX4_takeBack_15 ?_
    refine tpi (x' := nI mq) (by rw [hmv]; exact nD_succ mq) ?_
    refine m_put (ci := 4) (C := RX4) (T := TX4) (N := 9) (v := .int (nI mq)) hx hb hts in_X4 tyX4 tyX4_ok nmX4 hown hK hh hP rfl 8 (by decide) fl_41 (fun _ h => h) rfl (ty := tyX4 8) (by decide +kernel) (rfl) (rfl) (Nat.le_of_ble_eq_true rfl) dX4_takeBack_16 (fun M1 H1 locs1 e1 hh => ?_)
    have hJD := hJD.put hP (by simp [imm]) (by simp [nref]) e1
    have hPH := mu_kp e1 (mp_ne hPH hP (by simp)) hPH
    have hWM := mu_kp e1 (mp_ne hWM hP (by simp)) hWM
    have hMT := mu_kp e1 (mp_ne hMT hP (by simp)) hMT
    have hWF := mu_kp e1 (mp_ne hWF hP (by simp)) hWF
    have hP := mu_at e1
    have hkp := hkp.put e1 (by simp)
    have hP : M1 P = some (.inr (4, [.ref J, .ref PH, .ref WM, .ref MT, .ref WF, .int (nI g), .int (bI mi), .int (nI t), .int (nI mq)])) := hP
    have hM := hh.1
    refine lv_aload_n hx hb dX4_takeBack_19 rfl (lv_at hl 0 rfl) ?_
    refine lv_aload_n hx hb dX4_takeBack_20 rfl (lv_at hl 0 rfl) ?_
    refine m_get (ci := 4) (C := RX4) (T := TX4) (N := 9) (v := .ref WM) hx hb hts in_X4 hown hK hM hP rfl 2 (by decide) fl_15 (fun _ h => h) rfl dX4_takeBack_21 ?_
    refine lv_aload_n hx hb dX4_takeBack_24 rfl (lv_at hl 0 rfl) ?_
    refine m_get (ci := 4) (C := RX4) (T := TX4) (N := 9) (v := .int (nI mq)) hx hb hts in_X4 hown hK hM hP rfl 8 (by decide) fl_41 (fun _ h => h) rfl dX4_takeBack_25 ?_
    refine m_ialdN (k := mq) hx hb hK hM hWM (rfl) (by omega) (by decide) dX4_takeBack_28 ?_
    refine tpi (x' := nI (wh mq)) (hfw mq (by omega)) ?_
    refine lv_aload_n hx hb dX4_takeBack_29 rfl (lv_at hl 0 rfl) ?_
    refine m_get (ci := 4) (C := RX4) (T := TX4) (N := 9) (v := .ref MT) hx hb hts in_X4 hown hK hM hP rfl 3 (by decide) fl_19 (fun _ h => h) rfl dX4_takeBack_30 ?_
    refine lv_aload_n hx hb dX4_takeBack_33 rfl (lv_at hl 0 rfl) ?_
    refine m_get (ci := 4) (C := RX4) (T := TX4) (N := 9) (v := .int (nI mq)) hx hb hts in_X4 hown hK hM hP rfl 8 (by decide) fl_41 (fun _ h => h) rfl dX4_takeBack_34 ?_
    refine m_laldN (k := mq) hx hb hK hM hMT (rfl) (by omega) (by decide) dX4_takeBack_37 ?_
    refine tpl (x' := lN (ma mq)) (hfm mq (by omega)) ?_
    refine cmV (As := [.int (nI (wh mq)), .long (lN (ma mq))]) (rest := []) (k_X4_addToHeaps l D cA _ P J PH WM MT WF g t mq mi fh (wh mq) (lN (ma mq)) hP hg3 hPH hwl) ⟨hx, hb, hml, hown, hts⟩ (cwV 2 hts gX4_takeBack_X4_addToHeaps rfl rfl rfl (by decide +kernel) ⟨by decide, by decide⟩) hK hh hP rfl rfl hl.1 rfl (Nat.le_of_ble_eq_true rfl) dX4_takeBack_38 ⟨by decide, by decide⟩ (fun v9 M1 H1 locs1 hpost hh hz9 hk9 hn9 => ?_)
    obtain ⟨rfl, ⟨fh2, hPH1, hfh2⟩, hkc⟩ := hpost
    have hJD := hJD.k1 hkc hPH (by simp [imm]) (by simp [nref])
    have hfh3 : ∀ k, k < 3 → fh2 k = lN (hvB g (wh mq) (ma mq) hv k) := fun k hk => by rw [hfh2 k]; unfold hvB; by_cases e : k < hcF g ∧ tkF g (wh mq) k = true; (rw [if_pos e, if_pos e, hfh k hk]; exact lN_add _ _); (rw [if_neg e, if_neg e]; exact hfh k hk)
    have hP : M1 P = some (.inr (4, [.ref J, .ref PH, .ref WM, .ref MT, .ref WF, .int (nI g), .int (bI mi), .int (nI t), .int (nI mq)])) := hkc _ _ hP (ni1 (mp_ne hP hPH (by simp)))
    have hWM : M1 WM = some (.inl (cA 1, 200, .inl fw)) := hkc _ _ hWM (ni1 (mp_ne hWM hPH (by simp)))
    have hMT : M1 MT = some (.inl (cA 0, 200, .inr (.inl fm))) := hkc _ _ hMT (ni1 (mp_ne hMT hPH (by simp)))
    have hWF : M1 WF = some (.inl (cA 2, 200, .inl fz)) := hkc _ _ hWF (ni1 (mp_ne hWF hPH (by simp)))
    have hPH : M1 PH = some (.inl (cA 0, 3, .inr (.inl fh2))) := hPH1
    have hkp := hkp.call hkc (by simp)
    have hM := hh.1
    refine W.eq (g2 := F0 m 41 ls []) rfl ?_
    refine lv_iconst (v := 1) hx hb dX4_takeBack_41 (by decide) ?_
    exact hretz _ _ _ _ _ _ _ _ (true) hh (rfl) (⟨rfl, ⟨fh2, fw, fm, fz, hP, hPH, hWM, hMT, hWF, hne, hfh3, fun j hj => hfw j (by omega), fun j hj => hfm j (by omega), fun j hj => hfz j (by omega)⟩, hJD, hkp⟩) (by decide) (by decide) dX4_takeBack_42 rfl
  · exact absurd ((nI_leI (b := 0) (by omega) (by decide)).mp c_4) (by omega)
set_option maxHeartbeats 1000000 in
set_option maxRecDepth 100000 in
theorem k_X4_takeBack0 (l : Launch) (D : va_G) (cA : Nat → ClassId) (M : mp) (P J PH WM MT WF g t mv : Nat) (mi : Bool) (hv wh ma : Nat → Nat) (fa : Nat → Bool)  (hpw : pw cA M P J PH WM MT WF g t mv mi hv wh ma fa) (hmv : mv = 0)  : MC l D cA yX4_takeBack wsX4_takeBack 2 50 0 0 [.ref P] M (fun r M' => r = some (.int 0) ∧ kpL M M' []) := by
  refine MC.of (cc := cX4_takeBack) (maxL := 1) (ret := (some .boolean)) (by decide) rfl (Nat.le_of_ble_eq_true rfl) ?_
  intro p e s m args below meth c Q ls B hh hl hretv hreti hretz hretl hreta
  obtain ⟨hx, hb, hown, hts, hml, hK, hin⟩ := B
  have hM := hh.1
  have hM_0 := hh.1
  have hkp : kpL M M [] := kpL.rf M _
  have hown : s.vm.findClass RX4 = some m.cls := hown
  have hl : lv_has ls 1 [(0, .ref P)] := hl
  have in_X4 : ∀ w ∈ wsX40, w ∈ wsX4_takeBack := by decide +kernel
  have fl_41 := hts (.fieldLink RX4 41 "GoldHeaps$Play" "made" "I") (by decide +kernel)
  obtain ⟨fh, fw, fm, fz, hP, hPH, hWM, hMT, hWF, hne, hfh, hfw, hfm, hfz⟩ := hpw
  refine lv_aload_n hx hb dX4_takeBack_0 rfl (lv_at hl 0 rfl) ?_
  refine m_get (ci := 4) (C := RX4) (T := TX4) (N := 9) (v := .int (nI mv)) hx hb hts in_X4 hown hK hM hP rfl 8 (by decide) fl_41 (fun _ h => h) rfl dX4_takeBack_1 ?_
  refine bz_gt (tgt := 9) hx hb dX4_takeBack_4 (by decide) (fun c_4 n_4 => ?_) (fun c_4 n_4 => ?_)
  · exact absurd ((nI_ltI (a := 0) (by decide) (by omega)).mp c_4) (by omega)
  · skip
    refine lv_iconst (v := 0) hx hb dX4_takeBack_7 (by decide) ?_
    exact hretz _ _ _ _ _ _ _ _ (false) hh (rfl) (⟨rfl, hkp⟩) (by decide) (by decide) dX4_takeBack_8 rfl
set_option maxHeartbeats 1000000 in
set_option maxRecDepth 100000 in
theorem k_X4_tell (l : Launch) (D : va_G) (cA : Nat → ClassId) (M : mp) (P J PH WM MT WF g t mv : Nat) (mi : Bool) (hv wh ma : Nat → Nat) (fa : Nat → Bool) (TG GO SG BG TM SM : Nat) (w : Int32)  (hpw : pw cA M P J PH WM MT WF g t mv mi hv wh ma fa) (hJD : jdW cA M J TG GO SG BG TM SM) (hok : okB g t mi hv) (hmv : mv ≤ 200) (hlm : ma (mv - 1) ≤ 1000000000000)  : MC l D cA yX4_tell wsX4_tell 6 140 3 242 [.ref P, .int w] M (fun r M' => r = some (.long (tlV g mi t mv hv (bdV g t mv (hv 0) (ma (mv - 1))) (fcF fa mv) w)) ∧ jdW cA M' J TG GO SG BG TM SM ∧ kpL M M' [SM, TM]) := by
  refine MC.of (cc := cX4_tell) (maxL := 2) (ret := (some .long)) (by decide) rfl (Nat.le_of_ble_eq_true rfl) ?_
  intro p e s m args below meth c Q ls B hh hl hretv hreti hretz hretl hreta
  obtain ⟨hx, hb, hown, hts, hml, hK, hin⟩ := B
  have hM := hh.1
  have hM_0 := hh.1
  have hkp : kpL M M [SM, TM] := kpL.rf M _
  have hown : s.vm.findClass RX4 = some m.cls := hown
  have hl : lv_has ls 2 [(0, .ref P), (1, .int w)] := hl
  have cst_71 := hts (.constantLong RX4 71 (-2)) (by decide +kernel)
  have in_X4 : ∀ w ∈ wsX40, w ∈ wsX4_tell := by decide +kernel
  have fl_11 := hts (.fieldLink RX4 11 "GoldHeaps$Play" "heaps" "[J") (by decide +kernel)
  have fl_41 := hts (.fieldLink RX4 41 "GoldHeaps$Play" "made" "I") (by decide +kernel)
  have nl_64 := hK.2.1 (.methodLinkNest RX4 64 yX8_oneIf "GoldHeaps") (by decide +kernel)
  have ni_X8 := hts (.initialized RX8) (by decide +kernel)
  have ns_64 := hts (.static yX8_oneIf) (by decide +kernel)
  have fl_26 := hts (.fieldLink RX4 26 "GoldHeaps$Play" "game" "I") (by decide +kernel)
  obtain ⟨fh, fw, fm, fz, hP, hPH, hWM, hMT, hWF, hne, hfh, hfw, hfm, hfz⟩ := hpw
  have hg3 := hok.1
  refine lv_iload_n hx hb dX4_tell_0 rfl (lv_at hl 1 rfl) ?_
  by_cases hlo : w.toInt < 0
  · refine lv_tableOut (tgt := 99) hx hb dX4_tell_1 (Or.inl hlo) (by decide) ?_
    have hbad : ∀ k : Nat, k < 9 → ¬ w = nI k := fun k hk z => by rw [z, nI_toInt (by omega)] at hlo; omega
    refine lv_ldc2 hx hb hown cst_71 dX4_tell_99 ?_
    exact hretl _ _ _ _ _ _ _ _ hh (⟨by unfold tlV; rw [if_neg (show ¬ w = 0 from hbad 0 (by decide)), if_neg (show ¬ w = 1 from hbad 1 (by decide)), if_neg (show ¬ w = 2 from hbad 2 (by decide)), if_neg (show ¬ w = 3 from hbad 3 (by decide)), if_neg (show ¬ w = 4 from hbad 4 (by decide)), if_neg (show ¬ w = 5 from hbad 5 (by decide)), if_neg (show ¬ w = 6 from hbad 6 (by decide)), if_neg (show ¬ w = 7 from hbad 7 (by decide)), if_neg (show ¬ w = 8 from hbad 8 (by decide))], hJD, hkp⟩) (by decide) (by decide) dX4_tell_102 rfl
  · by_cases hhi : 8 < w.toInt
    · refine lv_tableOut (tgt := 99) hx hb dX4_tell_1 (Or.inr hhi) (by decide) ?_
      have hbad : ∀ k : Nat, k < 9 → ¬ w = nI k := fun k hk z => by rw [z, nI_toInt (by omega)] at hhi; omega
      refine lv_ldc2 hx hb hown cst_71 dX4_tell_99 ?_
      exact hretl _ _ _ _ _ _ _ _ hh (⟨by unfold tlV; rw [if_neg (show ¬ w = 0 from hbad 0 (by decide)), if_neg (show ¬ w = 1 from hbad 1 (by decide)), if_neg (show ¬ w = 2 from hbad 2 (by decide)), if_neg (show ¬ w = 3 from hbad 3 (by decide)), if_neg (show ¬ w = 4 from hbad 4 (by decide)), if_neg (show ¬ w = 5 from hbad 5 (by decide)), if_neg (show ¬ w = 6 from hbad 6 (by decide)), if_neg (show ¬ w = 7 from hbad 7 (by decide)), if_neg (show ¬ w = 8 from hbad 8 (by decide))], hJD, hkp⟩) (by decide) (by decide) dX4_tell_102 rfl
    · rcases (show w.toInt = 0 ∨ w.toInt = 1 ∨ w.toInt = 2 ∨ w.toInt = 3 ∨ w.toInt = 4 ∨ w.toInt = 5 ∨ w.toInt = 6 ∨ w.toInt = 7 ∨ w.toInt = 8 by omega) with hw | hw | hw | hw | hw | hw | hw | hw | hw
      · have ew : w = nI 0 := sw_i (by decide) hw
        refine lv_tableIn (tgt := 52) (off := 51) hx hb dX4_tell_1 hlo hhi (by rw [hw]; rfl) (by decide) ?_
        refine lv_aload_n hx hb dX4_tell_52 rfl (lv_at hl 0 rfl) ?_
        refine m_get (ci := 4) (C := RX4) (T := TX4) (N := 9) (v := .ref PH) hx hb hts in_X4 hown hK hM hP rfl 1 (by decide) fl_11 (fun _ h => h) rfl dX4_tell_53 ?_
        refine lv_iload_n hx hb dX4_tell_56 rfl (lv_at hl 1 rfl) ?_
        refine m_laldN (k := 0) hx hb hK hM hPH (ew) (by decide) (by decide) dX4_tell_57 ?_
        refine tpl (x' := lN (hv 0)) (hfh 0 (by decide)) ?_
        exact hretl _ _ _ _ _ _ _ _ hh (⟨by rw [ew]; rfl, hJD, hkp⟩) (by decide) (by decide) dX4_tell_58 rfl
      · have ew : w = nI 1 := sw_i (by decide) hw
        refine lv_tableIn (tgt := 52) (off := 51) hx hb dX4_tell_1 hlo hhi (by rw [hw]; rfl) (by decide) ?_
        refine lv_aload_n hx hb dX4_tell_52 rfl (lv_at hl 0 rfl) ?_
        refine m_get (ci := 4) (C := RX4) (T := TX4) (N := 9) (v := .ref PH) hx hb hts in_X4 hown hK hM hP rfl 1 (by decide) fl_11 (fun _ h => h) rfl dX4_tell_53 ?_
        refine lv_iload_n hx hb dX4_tell_56 rfl (lv_at hl 1 rfl) ?_
        refine m_laldN (k := 1) hx hb hK hM hPH (ew) (by decide) (by decide) dX4_tell_57 ?_
        refine tpl (x' := lN (hv 1)) (hfh 1 (by decide)) ?_
        exact hretl _ _ _ _ _ _ _ _ hh (⟨by rw [ew]; rfl, hJD, hkp⟩) (by decide) (by decide) dX4_tell_58 rfl
      · have ew : w = nI 2 := sw_i (by decide) hw
        refine lv_tableIn (tgt := 52) (off := 51) hx hb dX4_tell_1 hlo hhi (by rw [hw]; rfl) (by decide) ?_
        refine lv_aload_n hx hb dX4_tell_52 rfl (lv_at hl 0 rfl) ?_
        refine m_get (ci := 4) (C := RX4) (T := TX4) (N := 9) (v := .ref PH) hx hb hts in_X4 hown hK hM hP rfl 1 (by decide) fl_11 (fun _ h => h) rfl dX4_tell_53 ?_
        refine lv_iload_n hx hb dX4_tell_56 rfl (lv_at hl 1 rfl) ?_
        refine m_laldN (k := 2) hx hb hK hM hPH (ew) (by decide) (by decide) dX4_tell_57 ?_
        refine tpl (x' := lN (hv 2)) (hfh 2 (by decide)) ?_
        exact hretl _ _ _ _ _ _ _ _ hh (⟨by rw [ew]; rfl, hJD, hkp⟩) (by decide) (by decide) dX4_tell_58 rfl
      · have ew : w = nI 3 := sw_i (by decide) hw
        refine lv_tableIn (tgt := 59) (off := 58) hx hb dX4_tell_1 hlo hhi (by rw [hw]; rfl) (by decide) ?_
        refine lv_aload_n hx hb dX4_tell_59 rfl (lv_at hl 0 rfl) ?_
        refine cpV (As := []) (rest := []) (k_X4_bound l D cA _ P J PH WM MT WF g t mv mi fh fm hv (ma (mv - 1)) hP hok.1 hPH hMT hfh (fun h => hfm (mv - 1) (by omega)) hok.2.1 hok.2.2.1 hlm hmv) ⟨hx, hb, hml, hown, hts⟩ (cwV 0 hts gX4_tell_X4_bound rfl rfl rfl (by decide +kernel) ⟨by decide, by decide⟩) hK hM hP rfl rfl hl.1 rfl (Nat.le_of_ble_eq_true rfl) dX4_tell_60 ⟨by decide, by decide⟩ ?_
        exact hretl _ _ _ _ _ _ _ _ hh (⟨by rw [ew]; rfl, hJD, hkp⟩) (by decide) (by decide) dX4_tell_63 rfl
      · have ew : w = nI 4 := sw_i (by decide) hw
        refine lv_tableIn (tgt := 64) (off := 63) hx hb dX4_tell_1 hlo hhi (by rw [hw]; rfl) (by decide) ?_
        refine lv_aload_n hx hb dX4_tell_64 rfl (lv_at hl 0 rfl) ?_
        refine m_get (ci := 4) (C := RX4) (T := TX4) (N := 9) (v := .int (nI mv)) hx hb hts in_X4 hown hK hM hP rfl 8 (by decide) fl_41 (fun _ h => h) rfl dX4_tell_65 ?_
        refine lv_i2l hx hb dX4_tell_68 rfl ?_
        refine tpl (x' := lN mv) (nI_l (by omega)) ?_
        exact hretl _ _ _ _ _ _ _ _ hh (⟨by rw [ew]; rfl, hJD, hkp⟩) (by decide) (by decide) dX4_tell_69 rfl
      · have ew : w = nI 5 := sw_i (by decide) hw
        refine lv_tableIn (tgt := 70) (off := 69) hx hb dX4_tell_1 hlo hhi (by rw [hw]; rfl) (by decide) ?_
        refine lv_aload_n hx hb dX4_tell_70 rfl (lv_at hl 0 rfl) ?_
        refine cmV (As := []) (rest := []) (k_X4_isWon l D cA _ P J PH WM MT WF g t mv mi TG GO SG BG TM SM fh fm hv (ma (mv - 1)) hP hok.1 hPH hMT hfh (fun h => hfm (mv - 1) (by omega)) hlm hmv hok hJD) ⟨hx, hb, hml, hown, hts⟩ (cwV 0 hts gX4_tell_X4_isWon rfl rfl rfl (by decide +kernel) ⟨by decide, by decide⟩) hK hh hP rfl rfl hl.1 rfl (Nat.le_of_ble_eq_true rfl) dX4_tell_71 ⟨by decide, by decide⟩ (fun v9 M1 H1 locs1 hpost hh hz9 hk9 hn9 => ?_)
        obtain ⟨rfl, hJD1, hkc⟩ := hpost
        obtain ⟨fs0, hSM, -⟩ := id hJD.2.2.1
        obtain ⟨ft0, hTM, -⟩ := id hJD.2.2.2
        have hJD := hJD1
        have hP : M1 P = some (.inr (4, [.ref J, .ref PH, .ref WM, .ref MT, .ref WF, .int (nI g), .int (bI mi), .int (nI t), .int (nI mv)])) := hkc _ _ hP (ni2 (mp_ne hP hSM (by simp)) (mp_ne hP hTM (by simp)))
        have hPH : M1 PH = some (.inl (cA 0, 3, .inr (.inl fh))) := hkc _ _ hPH (ni2 (mp_ne hPH hSM (by simp)) (mp_ne hPH hTM (by simp)))
        have hWM : M1 WM = some (.inl (cA 1, 200, .inl fw)) := hkc _ _ hWM (ni2 (mp_ne hWM hSM (by simp)) (mp_ne hWM hTM (by simp)))
        have hMT : M1 MT = some (.inl (cA 0, 200, .inr (.inl fm))) := hkc _ _ hMT (ni2 (mp_ne hMT hSM (by simp)) (mp_ne hMT hTM (by simp)))
        have hWF : M1 WF = some (.inl (cA 2, 200, .inl fz)) := hkc _ _ hWF (ni2 (mp_ne hWF hSM (by simp)) (mp_ne hWF hTM (by simp)))
        have hkp := hkp.call hkc (by simp)
        have hM := hh.1
        refine W.widen (k := 3) (n := 242) (by decide) (by decide) ?_
        refine W.eq (g2 := F0 m 74 ls [.int (bI (wnF g mi t hv (bdV g t mv (hv 0) (ma (mv - 1)))))]) rfl ?_
        refine cpSN (As := [.int (bI (wnF g mi t hv (bdV g t mv (hv 0) (ma (mv - 1)))))]) (rest := []) (k_X8_oneIf l D cA _ (wnF g mi t hv (bdV g t mv (hv 0) (ma (mv - 1))))) ⟨hx, hb, hml, hown, hts⟩ ⟨va_cnB 1 hts gX4_tell_X8_oneIf_n64 rfl rfl rfl nl_64 ni_X8 (by decide +kernel) ⟨by decide, by decide⟩, ns_64, trivial⟩ hK hM rfl hl.1 rfl (Nat.le_of_ble_eq_true rfl) dX4_tell_74 ⟨by decide, by decide⟩ ?_
        refine lv_i2l hx hb dX4_tell_77 rfl ?_
        exact hretl _ _ _ _ _ _ _ _ hh (⟨by rw [ew]; rfl, hJD, hkp⟩) (by decide) (by decide) dX4_tell_78 rfl
      · have ew : w = nI 6 := sw_i (by decide) hw
        refine lv_tableIn (tgt := 79) (off := 78) hx hb dX4_tell_1 hlo hhi (by rw [hw]; rfl) (by decide) ?_
        refine lv_aload_n hx hb dX4_tell_79 rfl (lv_at hl 0 rfl) ?_
        refine m_get (ci := 4) (C := RX4) (T := TX4) (N := 9) (v := .int (nI mv)) hx hb hts in_X4 hown hK hM hP rfl 8 (by decide) fl_41 (fun _ h => h) rfl dX4_tell_80 ?_
        refine lv_iconst (v := 2) hx hb dX4_tell_83 (by decide) ?_
        refine lv_irem hx hb dX4_tell_84 (by decide) ?_
        refine tpi (x' := nI (mv % 2)) (pk_rem (d := 2) (by omega) (by decide) (by decide)) ?_
        refine lv_i2l hx hb dX4_tell_85 rfl ?_
        refine tpl (x' := lN (mv % 2)) (nI_l (by omega)) ?_
        exact hretl _ _ _ _ _ _ _ _ hh (⟨by rw [ew]; rfl, hJD, hkp⟩) (by decide) (by decide) dX4_tell_86 rfl
      · have ew : w = nI 7 := sw_i (by decide) hw
        refine lv_tableIn (tgt := 87) (off := 86) hx hb dX4_tell_1 hlo hhi (by rw [hw]; rfl) (by decide) ?_
        refine lv_aload_n hx hb dX4_tell_87 rfl (lv_at hl 0 rfl) ?_
        refine cpV (As := []) (rest := []) (k_X4_faults l D cA _ P J PH WM MT WF g t mv mi fz fa hP hg3 hWF hfz hmv) ⟨hx, hb, hml, hown, hts⟩ (cwV 0 hts gX4_tell_X4_faults rfl rfl rfl (by decide +kernel) ⟨by decide, by decide⟩) hK hM hP rfl rfl hl.1 rfl (Nat.le_of_ble_eq_true rfl) dX4_tell_88 ⟨by decide, by decide⟩ ?_
        refine lv_i2l hx hb dX4_tell_91 rfl ?_
        refine tpl (x' := lN (fcF fa mv)) (nI_l (by have := fcF_le fa mv; omega)) ?_
        exact hretl _ _ _ _ _ _ _ _ hh (⟨by rw [ew]; rfl, hJD, hkp⟩) (by decide) (by decide) dX4_tell_92 rfl
      · have ew : w = nI 8 := sw_i (by decide) hw
        refine lv_tableIn (tgt := 93) (off := 92) hx hb dX4_tell_1 hlo hhi (by rw [hw]; rfl) (by decide) ?_
        refine lv_aload_n hx hb dX4_tell_93 rfl (lv_at hl 0 rfl) ?_
        refine m_get (ci := 4) (C := RX4) (T := TX4) (N := 9) (v := .int (nI g)) hx hb hts in_X4 hown hK hM hP rfl 5 (by decide) fl_26 (fun _ h => h) rfl dX4_tell_94 ?_
        refine lv_i2l hx hb dX4_tell_97 rfl ?_
        refine tpl (x' := lN g) (nI_l (by omega)) ?_
        exact hretl _ _ _ _ _ _ _ _ hh (⟨by rw [ew]; rfl, hJD, hkp⟩) (by decide) (by decide) dX4_tell_98 rfl
