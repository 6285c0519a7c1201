theorem remL {x y : Int64} {m n : Nat} (hx : x = lN m) (hy : y = lN n) (h1 : m < 2 ^ 63) (h0 : 0 < n) (h2 : n < 2 ^ 63) : x - x / y * y = lN (m % n) := by rw [hx, hy]; exact pk_lRem h1 h0 h2
theorem min_lN2 {a b : Nat} (ha : a < 2 ^ 63) (hb : b < 2 ^ 63) : (if lN b < lN a then lN b else lN a) = lN (min a b) := by
  by_cases h : b < a
  · rw [if_pos ((ln_lt hb ha).mpr h), Nat.min_eq_right (by omega)]
  · rw [if_neg (fun z => h ((ln_lt hb ha).mp z)), Nat.min_eq_left (by omega)]
set_option maxHeartbeats 1000000 in
set_option maxRecDepth 100000 in
theorem k_X4_movesMade (l : Launch) (D : va_G) (cA : Nat → ClassId) (M : mp) (P J PH WM MT WF g t mv : Nat) (mi : Bool)  (hP : M P = some (.inr (4, [.ref J, .ref PH, .ref WM, .ref MT, .ref WF, .int (nI g), .int (bI mi), .int (nI t), .int (nI mv)]))) (hg3 : g ≤ 3)  : PC l D cA yX4_movesMade wsX4_movesMade 0 0 [.ref P] M (some (.int (nI mv))) := by
  refine PC.it (cc := cX4_movesMade) (maxL := 1) (by decide) rfl (Nat.le_of_ble_eq_true rfl) ?_
  intro p e s m args below meth c H Q ls B hM hl hret
  obtain ⟨hx, hb, hown, hts, hml, hK, hin⟩ := B
  have hown : s.vm.findClass RX4 = some m.cls := hown
  have hl : lv_has ls 1 [(0, .ref P)] := hl
  have in_X4 : ∀ w ∈ wsX40, w ∈ wsX4_movesMade := by decide +kernel
  have fl_41 := hts (.fieldLink RX4 41 "GoldHeaps$Play" "made" "I") (by decide +kernel)
  refine lv_aload_n hx hb dX4_movesMade_0 rfl (lv_at hl 0 rfl) ?_
  refine m_get (ci := 4) (C := RX4) (T := TX4) (N := 9) (v := .int (nI mv)) hx hb hts in_X4 hown hK hM hP rfl 8 (by decide) fl_41 (fun _ h => h) rfl dX4_movesMade_1 ?_
  exact hret _ _ _ dX4_movesMade_4 (rfl)
set_option maxHeartbeats 1000000 in
set_option maxRecDepth 100000 in
theorem k_X4_heapCount (l : Launch) (D : va_G) (cA : Nat → ClassId) (M : mp) (P J PH WM MT WF g t mv : Nat) (mi : Bool)  (hP : M P = some (.inr (4, [.ref J, .ref PH, .ref WM, .ref MT, .ref WF, .int (nI g), .int (bI mi), .int (nI t), .int (nI mv)]))) (hg3 : g ≤ 3)  : PC l D cA yX4_heapCount wsX4_heapCount 0 0 [.ref P] M (some (.int (nI (hcF g)))) := by
  refine PC.it (cc := cX4_heapCount) (maxL := 1) (by decide) rfl (Nat.le_of_ble_eq_true rfl) ?_
  intro p e s m args below meth c H Q ls B hM hl hret
  obtain ⟨hx, hb, hown, hts, hml, hK, hin⟩ := B
  have hown : s.vm.findClass RX4 = some m.cls := hown
  have hl : lv_has ls 1 [(0, .ref P)] := hl
  have in_X4 : ∀ w ∈ wsX40, w ∈ wsX4_heapCount := by decide +kernel
  have fl_26 := hts (.fieldLink RX4 26 "GoldHeaps$Play" "game" "I") (by decide +kernel)
  refine lv_aload_n hx hb dX4_heapCount_0 rfl (lv_at hl 0 rfl) ?_
  refine m_get (ci := 4) (C := RX4) (T := TX4) (N := 9) (v := .int (nI g)) hx hb hts in_X4 hown hK hM hP rfl 5 (by decide) fl_26 (fun _ h => h) rfl dX4_heapCount_1 ?_
  refine lv_iconst (v := 3) hx hb dX4_heapCount_4 (by decide) ?_
  refine bi_ne (tgt := 10) hx hb dX4_heapCount_5 (by decide) (fun c_5 n_5 => ?_) (fun c_5 n_5 => ?_)
  · skip
    have q3 : ¬ g = 3 := fun z => c_5 (by rw [z]; rfl)
    refine lv_aload_n hx hb dX4_heapCount_10 rfl (lv_at hl 0 rfl) ?_
    refine m_get (ci := 4) (C := RX4) (T := TX4) (N := 9) (v := .int (nI g)) hx hb hts in_X4 hown hK hM hP rfl 5 (by decide) fl_26 (fun _ h => h) rfl dX4_heapCount_11 ?_
    refine lv_iconst (v := 2) hx hb dX4_heapCount_14 (by decide) ?_
    refine bi_ne (tgt := 22) hx hb dX4_heapCount_15 (by decide) (fun c_15 n_15 => ?_) (fun c_15 n_15 => ?_)
    · skip
      have q2 : ¬ g = 2 := fun z => c_15 (by rw [z]; rfl)
      refine lv_iconst (v := 2) hx hb dX4_heapCount_22 (by decide) ?_
      exact hret _ _ _ dX4_heapCount_23 (by unfold hcF; rw [if_neg q3, if_neg q2]; rfl)
    · skip
      have q2 : g = 2 := (nI_eq (b := 2) (by omega) (by decide)).mp c_15
      refine lv_iconst (v := 1) hx hb dX4_heapCount_18 (by decide) ?_
      refine lv_goto (tgt := 23) hx hb dX4_heapCount_19 (by decide) ?_
      exact hret _ _ _ dX4_heapCount_23 (by unfold hcF; rw [if_neg q3, if_pos q2]; rfl)
  · skip
    have q3 : g = 3 := (nI_eq (b := 3) (by omega) (by decide)).mp c_5
    refine lv_iconst (v := 3) hx hb dX4_heapCount_8 (by decide) ?_
    exact hret _ _ _ dX4_heapCount_9 (by unfold hcF; rw [if_pos q3]; rfl)
set_option maxHeartbeats 1000000 in
set_option maxRecDepth 100000 in
theorem k_X4_ways (l : Launch) (D : va_G) (cA : Nat → ClassId) (M : mp) (P J PH WM MT WF g t mv : Nat) (mi : Bool)  (hP : M P = some (.inr (4, [.ref J, .ref PH, .ref WM, .ref MT, .ref WF, .int (nI g), .int (bI mi), .int (nI t), .int (nI mv)]))) (hg3 : g ≤ 3)  : PC l D cA yX4_ways wsX4_ways 1 20 [.ref P] M (some (.int (nI (wyF g)))) := by
  refine PC.it (cc := cX4_ways) (maxL := 1) (by decide) rfl (Nat.le_of_ble_eq_true rfl) ?_
  intro p e s m args below meth c H Q ls B hM hl hret
  obtain ⟨hx, hb, hown, hts, hml, hK, hin⟩ := B
  have hown : s.vm.findClass RX4 = some m.cls := hown
  have hl : lv_has ls 1 [(0, .ref P)] := hl
  have in_X4 : ∀ w ∈ wsX40, w ∈ wsX4_ways := by decide +kernel
  have fl_26 := hts (.fieldLink RX4 26 "GoldHeaps$Play" "game" "I") (by decide +kernel)
  refine lv_aload_n hx hb dX4_ways_0 rfl (lv_at hl 0 rfl) ?_
  refine m_get (ci := 4) (C := RX4) (T := TX4) (N := 9) (v := .int (nI g)) hx hb hts in_X4 hown hK hM hP rfl 5 (by decide) fl_26 (fun _ h => h) rfl dX4_ways_1 ?_
  refine lv_iconst (v := 1) hx hb dX4_ways_4 (by decide) ?_
  refine bi_eq (tgt := 16) hx hb dX4_ways_5 (by decide) (fun c_5 n_5 => ?_) (fun c_5 n_5 => ?_)
  · skip
    have q1 : g = 1 := (nI_eq (b := 1) (by omega) (by decide)).mp c_5
    refine lv_aload_n hx hb dX4_ways_16 rfl (lv_at hl 0 rfl) ?_
    refine cpV (As := []) (rest := []) (k_X4_heapCount l D cA _ P J PH WM MT WF g t mv mi hP hg3) ⟨hx, hb, hml, hown, hts⟩ (cwV 0 hts gX4_ways_X4_heapCount rfl rfl rfl (by decide +kernel) ⟨by decide, by decide⟩) hK hM hP rfl rfl hl.1 rfl (Nat.le_of_ble_eq_true rfl) dX4_ways_17 ⟨by decide, by decide⟩ ?_
    refine lv_iconst (v := 1) hx hb dX4_ways_20 (by decide) ?_
    refine lv_iadd hx hb dX4_ways_21 ?_
    refine lv_goto (tgt := 29) hx hb dX4_ways_22 (by decide) ?_
    exact hret _ _ _ dX4_ways_29 (by subst q1; rfl)
  · skip
    have q1 : ¬ g = 1 := fun z => c_5 (by rw [z]; rfl)
    refine lv_aload_n hx hb dX4_ways_8 rfl (lv_at hl 0 rfl) ?_
    refine m_get (ci := 4) (C := RX4) (T := TX4) (N := 9) (v := .int (nI g)) hx hb hts in_X4 hown hK hM hP rfl 5 (by decide) fl_26 (fun _ h => h) rfl dX4_ways_9 ?_
    refine lv_iconst (v := 3) hx hb dX4_ways_12 (by decide) ?_
    refine bi_ne (tgt := 25) hx hb dX4_ways_13 (by decide) (fun c_13 n_13 => ?_) (fun c_13 n_13 => ?_)
    · skip
      have q3 : ¬ g = 3 := fun z => c_13 (by rw [z]; rfl)
      refine lv_aload_n hx hb dX4_ways_25 rfl (lv_at hl 0 rfl) ?_
      refine cpV (As := []) (rest := []) (k_X4_heapCount l D cA _ P J PH WM MT WF g t mv mi hP hg3) ⟨hx, hb, hml, hown, hts⟩ (cwV 0 hts gX4_ways_X4_heapCount rfl rfl rfl (by decide +kernel) ⟨by decide, by decide⟩) hK hM hP rfl rfl hl.1 rfl (Nat.le_of_ble_eq_true rfl) dX4_ways_26 ⟨by decide, by decide⟩ ?_
      exact hret _ _ _ dX4_ways_29 (by unfold wyF hcF; simp only [q1, q3, if_false])
    · skip
      have q3 : g = 3 := (nI_eq (b := 3) (by omega) (by decide)).mp c_13
      refine lv_aload_n hx hb dX4_ways_16 rfl (lv_at hl 0 rfl) ?_
      refine cpV (As := []) (rest := []) (k_X4_heapCount l D cA _ P J PH WM MT WF g t mv mi hP hg3) ⟨hx, hb, hml, hown, hts⟩ (cwV 0 hts gX4_ways_X4_heapCount rfl rfl rfl (by decide +kernel) ⟨by decide, by decide⟩) hK hM hP rfl rfl hl.1 rfl (Nat.le_of_ble_eq_true rfl) dX4_ways_17 ⟨by decide, by decide⟩ ?_
      refine lv_iconst (v := 1) hx hb dX4_ways_20 (by decide) ?_
      refine lv_iadd hx hb dX4_ways_21 ?_
      refine lv_goto (tgt := 29) hx hb dX4_ways_22 (by decide) ?_
      exact hret _ _ _ dX4_ways_29 (by subst q3; rfl)
set_option maxHeartbeats 1000000 in
set_option maxRecDepth 100000 in
theorem k_X4_takesFrom (l : Launch) (D : va_G) (cA : Nat → ClassId) (M : mp) (P J PH WM MT WF g t mv : Nat) (mi : Bool) (w k : Nat)  (hP : M P = some (.inr (4, [.ref J, .ref PH, .ref WM, .ref MT, .ref WF, .int (nI g), .int (bI mi), .int (nI t), .int (nI mv)]))) (hg3 : g ≤ 3) (hw3 : w ≤ 3) (hk3 : k ≤ 3) : PC l D cA yX4_takesFrom wsX4_takesFrom 1 20 [.ref P, .int (nI w), .int (nI k)] M (some (.int (bI (tkF g w k)))) := by
  refine PC.zz (cc := cX4_takesFrom) (maxL := 3) (by decide) rfl (Nat.le_of_ble_eq_true rfl) ?_
  intro p e s m args below meth c H Q ls B hM hl hret
  obtain ⟨hx, hb, hown, hts, hml, hK, hin⟩ := B
  have hown : s.vm.findClass RX4 = some m.cls := hown
  have hl : lv_has ls 3 [(0, .ref P), (1, .int (nI w)), (2, .int (nI k))] := hl
  have hc3 := hcF_le g
  refine lv_iload_n hx hb dX4_takesFrom_0 rfl (lv_at hl 1 rfl) ?_
  refine lv_iload_n hx hb dX4_takesFrom_1 rfl (lv_at hl 2 rfl) ?_
  refine bi_eq (tgt := 13) hx hb dX4_takesFrom_2 (by decide) (fun c_2 n_2 => ?_) (fun c_2 n_2 => ?_)
  · skip
    have e1 : w = k := (nI_eq (by omega) (by omega)).mp c_2
    refine lv_iconst (v := 1) hx hb dX4_takesFrom_13 (by decide) ?_
    refine lv_goto (tgt := 18) hx hb dX4_takesFrom_14 (by decide) ?_
    exact hret _ _ _ dX4_takesFrom_18 (by unfold tkF; rw [decide_eq_true e1]; rfl)
  · skip
    have e1 : ¬ w = k := fun z => c_2 (by rw [z])
    refine lv_iload_n hx hb dX4_takesFrom_5 rfl (lv_at hl 1 rfl) ?_
    refine lv_aload_n hx hb dX4_takesFrom_6 rfl (lv_at hl 0 rfl) ?_
    refine cpV (As := []) (rest := [.int (nI w)]) (k_X4_heapCount l D cA _ P J PH WM MT WF g t mv mi hP hg3) ⟨hx, hb, hml, hown, hts⟩ (cwV 0 hts gX4_takesFrom_X4_heapCount rfl rfl rfl (by decide +kernel) ⟨by decide, by decide⟩) hK hM hP rfl rfl hl.1 rfl (Nat.le_of_ble_eq_true rfl) dX4_takesFrom_7 ⟨by decide, by decide⟩ ?_
    refine bi_ne (tgt := 17) hx hb dX4_takesFrom_10 (by decide) (fun c_10 n_10 => ?_) (fun c_10 n_10 => ?_)
    · skip
      have e2 : ¬ w = hcF g := fun z => c_10 (by rw [← z])
      refine lv_iconst (v := 0) hx hb dX4_takesFrom_17 (by decide) ?_
      exact hret _ _ _ dX4_takesFrom_18 (by unfold tkF; rw [decide_eq_false e1, decide_eq_false e2]; rfl)
    · skip
      have e2 : w = hcF g := (nI_eq (by omega) (by omega)).mp c_10
      refine lv_iconst (v := 1) hx hb dX4_takesFrom_13 (by decide) ?_
      refine lv_goto (tgt := 18) hx hb dX4_takesFrom_14 (by decide) ?_
      exact hret _ _ _ dX4_takesFrom_18 (by unfold tkF; rw [decide_eq_true e2, Bool.or_true]; rfl)
set_option maxHeartbeats 1000000 in
set_option maxRecDepth 100000 in
theorem k_X4_bound (l : Launch) (D : va_G) (cA : Nat → ClassId) (M : mp) (P J PH WM MT WF g t mv : Nat) (mi : Bool) (fh fm : Nat → Int64) (hv : Nat → Nat) (lm : Nat)  (hP : M P = some (.inr (4, [.ref J, .ref PH, .ref WM, .ref MT, .ref WF, .int (nI g), .int (bI mi), .int (nI t), .int (nI mv)]))) (hg3 : g ≤ 3) (hPH : M PH = some (.inl (cA 0, 3, .inr (.inl fh)))) (hMT : M MT = some (.inl (cA 0, 200, .inr (.inl fm)))) (hfh : ∀ k, k < 3 → fh k = lN (hv k)) (hfm : 1 ≤ mv → fm (mv - 1) = lN lm) (hhv : ∀ k, hv k ≤ 1000000000000) (ht9 : t ≤ 9) (hlm : lm ≤ 1000000000000) (hmv : mv ≤ 200)  : PC l D cA yX4_bound wsX4_bound 1 23 [.ref P] M (some (.long (lN (bdV g t mv (hv 0) lm)))) := by
  refine PC.lg (cc := cX4_bound) (maxL := 1) (by decide) rfl (Nat.le_of_ble_eq_true rfl) ?_
  intro p e s m args below meth c H Q ls B hM hl hret
  obtain ⟨hx, hb, hown, hts, hml, hK, hin⟩ := B
  have hown : s.vm.findClass RX4 = some m.cls := hown
  have hl : lv_has ls 1 [(0, .ref P)] := hl
  have in_X4 : ∀ w ∈ wsX40, w ∈ wsX4_bound := by decide +kernel
  have fl_26 := hts (.fieldLink RX4 26 "GoldHeaps$Play" "game" "I") (by decide +kernel)
  have fl_41 := hts (.fieldLink RX4 41 "GoldHeaps$Play" "made" "I") (by decide +kernel)
  have cst_79 := hts (.constantLong RX4 79 (1000000000000)) (by decide +kernel)
  have fl_38 := hts (.fieldLink RX4 38 "GoldHeaps$Play" "t" "I") (by decide +kernel)
  have fl_19 := hts (.fieldLink RX4 19 "GoldHeaps$Play" "manyTaken" "[J") (by decide +kernel)
  have ml_81 := hts (.methodLink RX4 81 Lib.MathLoose.min_long.x) (by decide +kernel)
  have ms_81 := hts (.static Lib.MathLoose.min_long.x) (by decide +kernel)
  have mi_math := hts (.initialized "java/lang/Math") (by decide +kernel)
  have mc_81 := hts (.code Lib.MathLoose.min_long.x Lib.MathLoose.min_long.code 4 (some .long)) (by decide +kernel)
  have fl_11 := hts (.fieldLink RX4 11 "GoldHeaps$Play" "heaps" "[J") (by decide +kernel)
  have ml_73 := hts (.methodLink RX4 73 Lib.MathLoose.max_long.x) (by decide +kernel)
  have ms_73 := hts (.static Lib.MathLoose.max_long.x) (by decide +kernel)
  have mc_73 := hts (.code Lib.MathLoose.max_long.x Lib.MathLoose.max_long.code 4 (some .long)) (by decide +kernel)
  have hh0 := hhv 0
  have htl : t * lm ≤ 9 * 1000000000000 := Nat.mul_le_mul ht9 hlm
  refine lv_aload_n hx hb dX4_bound_0 rfl (lv_at hl 0 rfl) ?_
  refine m_get (ci := 4) (C := RX4) (T := TX4) (N := 9) (v := .int (nI g)) hx hb hts in_X4 hown hK hM hP rfl 5 (by decide) fl_26 (fun _ h => h) rfl dX4_bound_1 ?_
  refine lv_iconst (v := 2) hx hb dX4_bound_4 (by decide) ?_
  refine bi_eq (tgt := 10) hx hb dX4_bound_5 (by decide) (fun c_5 n_5 => ?_) (fun c_5 n_5 => ?_)
  · skip
    have q2 : g = 2 := (nI_eq (b := 2) (by omega) (by decide)).mp c_5
    refine lv_aload_n hx hb dX4_bound_10 rfl (lv_at hl 0 rfl) ?_
    refine m_get (ci := 4) (C := RX4) (T := TX4) (N := 9) (v := .int (nI mv)) hx hb hts in_X4 hown hK hM hP rfl 8 (by decide) fl_41 (fun _ h => h) rfl dX4_bound_11 ?_
    refine bz_ne (tgt := 32) hx hb dX4_bound_14 (by decide) (fun c_14 n_14 => ?_) (fun c_14 n_14 => ?_)
    · skip
      have m0 : ¬ mv = 0 := fun z => c_14 (by rw [z]; rfl)
      refine lv_ldc2 hx hb hown cst_79 dX4_bound_32 ?_
      refine tpl (x' := lN 1000000000000) (l12) ?_
      refine lv_aload_n hx hb dX4_bound_35 rfl (lv_at hl 0 rfl) ?_
      refine m_get (ci := 4) (C := RX4) (T := TX4) (N := 9) (v := .int (nI t)) hx hb hts in_X4 hown hK hM hP rfl 7 (by decide) fl_38 (fun _ h => h) rfl dX4_bound_36 ?_
      refine lv_i2l hx hb dX4_bound_39 rfl ?_
      refine tpl (x' := lN t) (nI_l (by omega)) ?_
      refine lv_aload_n hx hb dX4_bound_40 rfl (lv_at hl 0 rfl) ?_
      refine m_get (ci := 4) (C := RX4) (T := TX4) (N := 9) (v := .ref MT) hx hb hts in_X4 hown hK hM hP rfl 3 (by decide) fl_19 (fun _ h => h) rfl dX4_bound_41 ?_
      refine lv_aload_n hx hb dX4_bound_44 rfl (lv_at hl 0 rfl) ?_
      refine m_get (ci := 4) (C := RX4) (T := TX4) (N := 9) (v := .int (nI mv)) hx hb hts in_X4 hown hK hM hP rfl 8 (by decide) fl_41 (fun _ h => h) rfl dX4_bound_45 ?_
      refine lv_iconst (v := 1) hx hb dX4_bound_48 (by decide) ?_
      refine lv_isub hx hb dX4_bound_49 ?_
      refine m_laldN (k := mv - 1) hx hb hK hM hMT (by rw [show (1 : Int32) = nI 1 from rfl]; exact nI_sub (by omega)) (by omega) (by decide) dX4_bound_50 ?_
      refine tpl (x' := lN lm) (hfm (by omega)) ?_
      refine lv_lmul hx hb dX4_bound_51 ?_
      refine tpl (x' := lN (t * lm)) (lN_mul _ _) ?_
      refine va_mmin_long hx hb (by rw [hml]; exact hl.1.symm) hown ml_81 ms_81 mi_math mc_81 (Nat.le_of_ble_eq_true rfl) (Nat.le_of_ble_eq_true rfl) (Nat.le_of_ble_eq_true rfl) (Nat.le_of_ble_eq_true rfl) dX4_bound_52 ?_
      refine tpl (x' := lN (min 1000000000000 (t * lm))) (min_lN2 (by omega) (by omega)) ?_
      exact hret _ _ _ dX4_bound_55 (by unfold bdV; rw [if_pos q2, if_neg m0])
    · skip
      have m0 : mv = 0 := (nI_eq (b := 0) (by omega) (by decide)).mp c_14
      refine lv_lconst (v := 0) hx hb dX4_bound_17 (by decide) ?_
      refine lv_aload_n hx hb dX4_bound_18 rfl (lv_at hl 0 rfl) ?_
      refine m_get (ci := 4) (C := RX4) (T := TX4) (N := 9) (v := .ref PH) hx hb hts in_X4 hown hK hM hP rfl 1 (by decide) fl_11 (fun _ h => h) rfl dX4_bound_19 ?_
      refine lv_iconst (v := 0) hx hb dX4_bound_22 (by decide) ?_
      refine m_laldN (k := 0) hx hb hK hM hPH (rfl) (by decide) (by decide) dX4_bound_23 ?_
      refine tpl (x' := lN (hv 0)) (hfh 0 (by decide)) ?_
      refine lv_lconst (v := 1) hx hb dX4_bound_24 (by decide) ?_
      refine lv_lsub hx hb dX4_bound_25 ?_
      refine va_mmax_long hx hb (by rw [hml]; exact hl.1.symm) hown ml_73 ms_73 mi_math mc_73 (Nat.le_of_ble_eq_true rfl) (Nat.le_of_ble_eq_true rfl) (Nat.le_of_ble_eq_true rfl) (Nat.le_of_ble_eq_true rfl) dX4_bound_26 ?_
      refine tpl (x' := lN (hv 0 - 1)) (max0_lN hh0) ?_
      refine lv_goto (tgt := 55) hx hb dX4_bound_29 (by decide) ?_
      exact hret _ _ _ dX4_bound_55 (by unfold bdV; rw [if_pos q2, if_pos m0])
  · skip
    have q2 : ¬ g = 2 := fun z => c_5 (by rw [z]; rfl)
    refine lv_lconst (v := 0) hx hb dX4_bound_8 (by decide) ?_
    exact hret _ _ _ dX4_bound_9 (by unfold bdV; rw [if_neg q2]; rfl)
set_option maxHeartbeats 1000000 in
set_option maxRecDepth 100000 in
theorem k_X4_faults (l : Launch) (D : va_G) (cA : Nat → ClassId) (M : mp) (P J PH WM MT WF g t mv : Nat) (mi : Bool) (fz : Nat → Int32) (fa : Nat → Bool)  (hP : M P = some (.inr (4, [.ref J, .ref PH, .ref WM, .ref MT, .ref WF, .int (nI g), .int (bI mi), .int (nI t), .int (nI mv)]))) (hg3 : g ≤ 3) (hWF : M WF = some (.inl (cA 2, 200, .inl fz))) (hfz : ∀ j, j < mv → fz j = bI (fa j)) (hmv : mv ≤ 200)  : PC l D cA yX4_faults wsX4_faults 0 0 [.ref P] M (some (.int (nI (fcF fa mv)))) := by
  refine PC.it (cc := cX4_faults) (maxL := 3) (by decide) rfl (Nat.le_of_ble_eq_true rfl) ?_
  intro p e s m args below meth c H Q ls B hM hl hret
  obtain ⟨hx, hb, hown, hts, hml, hK, hin⟩ := B
  have hown : s.vm.findClass RX4 = some m.cls := hown
  have hl : lv_has ls 3 [(0, .ref P)] := hl
  have in_X4 : ∀ w ∈ wsX40, w ∈ wsX4_faults := by decide +kernel
  have fl_41 := hts (.fieldLink RX4 41 "GoldHeaps$Play" "made" "I") (by decide +kernel)
  have fl_22 := hts (.fieldLink RX4 22 "GoldHeaps$Play" "wasFault" "[Z") (by decide +kernel)
  refine lv_iconst (v := 0) hx hb dX4_faults_0 (by decide) ?_
  refine tpi (x' := nI (fcF fa 0)) (rfl) ?_
  refine lv_istore_n (lv' := [(1, .int (nI (fcF fa 0))), (0, .ref P)]) hx hb dX4_faults_1 rfl hl (by decide) rfl (fun ls hl => ?_)
  refine lv_iconst (v := 0) hx hb dX4_faults_2 (by decide) ?_
  refine tpi (x' := nI 0) (rfl) ?_
  refine lv_istore_n (lv' := [(2, .int (nI 0)), (1, .int (nI (fcF fa 0))), (0, .ref P)]) hx hb dX4_faults_3 rfl hl (by decide) rfl (fun ls hl => ?_)
  have j_4 : ∀ (fu : Nat) (k : Nat) (ls : Array Slot), (k ≤ mv) → (mv - k < fu) → lv_has ls 3 [(0, .ref P), (1, .int (nI (fcF fa k))), (2, .int (nI k))] → W p l e ({ frames := 0, cells := 0, slots := 0, locals := 0 } : Room) s m args below meth c H [] 0 0 Q (F0 m 4 ls []) := by
    intro fu
    induction fu with
    | zero => intro k ls hk hm_4 _; exact absurd hm_4 (Nat.not_lt_zero _)
    | succ fu ih_4 =>
      intro k ls hk hm_4 hl
      refine lv_iload_n hx hb dX4_faults_4 rfl (lv_at hl 2 rfl) ?_
      refine lv_aload_n hx hb dX4_faults_5 rfl (lv_at hl 0 rfl) ?_
      refine m_get (ci := 4) (C := RX4) (T := TX4) (N := 9) (v := .int (nI mv)) hx hb hts in_X4 hown hK hM hP rfl 8 (by decide) fl_41 (fun _ h => h) rfl dX4_faults_6 ?_
      refine bi_ge (tgt := 30) hx hb dX4_faults_9 (by decide) (fun c_9 n_9 => ?_) (fun c_9 n_9 => ?_)
      · skip
        have hge : mv ≤ k := (nI_leI (by omega) (by omega)).mp c_9
        refine lv_iload_n hx hb dX4_faults_30 rfl (lv_at hl 1 rfl) ?_
        exact hret _ _ _ dX4_faults_31 (by rw [show k = mv by omega])
      · skip
        have hlt : k < mv := (nI_ltI (by omega) (by omega)).mp c_9
        refine lv_aload_n hx hb dX4_faults_12 rfl (lv_at hl 0 rfl) ?_
        refine m_get (ci := 4) (C := RX4) (T := TX4) (N := 9) (v := .ref WF) hx hb hts in_X4 hown hK hM hP rfl 4 (by decide) fl_22 (fun _ h => h) rfl dX4_faults_13 ?_
        refine lv_iload_n hx hb dX4_faults_16 rfl (lv_at hl 2 rfl) ?_
        refine m_zaldN (k := k) hx hb hK hM hWF (rfl) (by omega) (by decide) dX4_faults_17 ?_
        refine bz_eq (tgt := 24) hx hb dX4_faults_18 (by decide) (fun c_18 n_18 => ?_) (fun c_18 n_18 => ?_)
        · skip
          have hfl : fa k = false := bI_eq0 (by rw [← hfz k hlt]; exact c_18)
          refine lv_iinc (v := nI (k + 1)) (lv' := [(2, .int (nI (k + 1))), (0, .ref P), (1, .int (nI (fcF fa k)))]) hx hb dX4_faults_24 hl (k := 2) rfl (nI_up k) (by decide) rfl (fun ls hl => ?_)
          refine lv_goto (tgt := 4) hx hb dX4_faults_27 (by decide) ?_
          rw [show fcF fa k = fcF fa (k + 1) from by show _ = fcF fa k + bN (fa k); rw [hfl]; rfl] at hl
          exact ih_4 (k + 1) _ (by omega) (by omega) (lv_sub hl [1, 2, 0] rfl)
        · skip
          have hfl : fa k = true := bI_ne0 (by rw [← hfz k hlt]; exact c_18)
          refine lv_iinc (v := nI (fcF fa (k + 1))) (lv' := [(1, .int (nI (fcF fa (k + 1)))), (0, .ref P), (2, .int (nI k))]) hx hb dX4_faults_21 hl (k := 1) rfl (by rw [show fcF fa (k + 1) = fcF fa k + 1 from by show fcF fa k + bN (fa k) = _; rw [hfl]; rfl]; exact nI_up _) (by decide) rfl (fun ls hl => ?_)
          refine lv_iinc (v := nI (k + 1)) (lv' := [(2, .int (nI (k + 1))), (1, .int (nI (fcF fa (k + 1)))), (0, .ref P)]) hx hb dX4_faults_24 hl (k := 2) rfl (nI_up k) (by decide) rfl (fun ls hl => ?_)
          refine lv_goto (tgt := 4) hx hb dX4_faults_27 (by decide) ?_
          exact ih_4 (k + 1) _ (by omega) (by omega) (lv_sub hl [2, 1, 0] rfl)
  exact j_4 (mv + 1) 0 _ (Nat.zero_le _) (by omega) (lv_sub hl [2, 1, 0] rfl)
set_option maxHeartbeats 1000000 in
set_option maxRecDepth 100000 in
theorem k_X4_mayTake (l : Launch) (D : va_G) (cA : Nat → ClassId) (M : mp) (P J PH WM MT WF g t mv : Nat) (mi : Bool) (fh fm : Nat → Int64) (hv : Nat → Nat) (lm : Nat) (w : Nat) (x : Int64)  (hP : M P = some (.inr (4, [.ref J, .ref PH, .ref WM, .ref MT, .ref WF, .int (nI g), .int (bI mi), .int (nI t), .int (nI mv)]))) (hg3 : g ≤ 3) (hPH : M PH = some (.inl (cA 0, 3, .inr (.inl fh)))) (hMT : M MT = some (.inl (cA 0, 200, .inr (.inl fm)))) (hfh : ∀ k, k < 3 → fh k = lN (hv k)) (hfm : 1 ≤ mv → fm (mv - 1) = lN lm) (hhv : ∀ k, hv k ≤ 1000000000000) (ht9 : t ≤ 9) (hlm : lm ≤ 1000000000000) (hmv : mv ≤ 200) (hw3 : w < wyF g)  : PC l D cA yX4_mayTake wsX4_mayTake 2 43 [.ref P, .int (nI w), .long x] M (some (.int (bI (mtF g mv hv (bdV g t mv (hv 0) lm) w x)))) := by
  refine PC.zz (cc := cX4_mayTake) (maxL := 6) (by decide) rfl (Nat.le_of_ble_eq_true rfl) ?_
  intro p e s m args below meth c H Q ls B hM hl hret
  obtain ⟨hx, hb, hown, hts, hml, hK, hin⟩ := B
  have hown : s.vm.findClass RX4 = some m.cls := hown
  have hl : lv_has ls 6 [(0, .ref P), (1, .int (nI w)), (2, .long x)] := hl
  have in_X4 : ∀ w ∈ wsX40, w ∈ wsX4_mayTake := by decide +kernel
  have fl_41 := hts (.fieldLink RX4 41 "GoldHeaps$Play" "made" "I") (by decide +kernel)
  have fl_26 := hts (.fieldLink RX4 26 "GoldHeaps$Play" "game" "I") (by decide +kernel)
  have fl_11 := hts (.fieldLink RX4 11 "GoldHeaps$Play" "heaps" "[J") (by decide +kernel)
  have hc3 := hcF_le g
  have hwl : w ≤ 3 := by unfold wyF at hw3; split at hw3 <;> (try split at hw3) <;> (try split at hw3) <;> omega
  have hbl := bdV_le (g := g) (t := t) (mv := mv) (lm := lm) (hhv 0)
  refine lv_aload_n hx hb dX4_mayTake_0 rfl (lv_at hl 0 rfl) ?_
  refine m_get (ci := 4) (C := RX4) (T := TX4) (N := 9) (v := .int (nI mv)) hx hb hts in_X4 hown hK hM hP rfl 8 (by decide) fl_41 (fun _ h => h) rfl dX4_mayTake_1 ?_
  refine lv_sipush (v := 200) hx hb dX4_mayTake_4 (by decide) ?_
  refine bi_ge (tgt := 16) hx hb dX4_mayTake_7 (by decide) (fun c_7 n_7 => ?_) (fun c_7 n_7 => ?_)
  · skip
    have hm2 : ¬ mv < 200 := fun z => absurd ((nI_leI (a := 200) (by decide) (by omega)).mp c_7) (by omega)
    refine lv_iconst (v := 0) hx hb dX4_mayTake_16 (by decide) ?_
    exact hret _ _ _ dX4_mayTake_17 (by unfold mtF; rw [decide_eq_false (p := mtP _ _ _ _ _ _) (fun z => hm2 z.1), Bool.and_false]; rfl)
  · skip
    have hm2 : mv < 200 := (nI_ltI (b := 200) (by omega) (by decide)).mp c_7
    refine lv_lload_n hx hb dX4_mayTake_10 rfl (lv_at hl 2 rfl) ?_
    refine lv_lconst (v := 1) hx hb dX4_mayTake_11 (by decide) ?_
    refine bl_ge (tgt := 18) hx hb dX4_mayTake_12 dX4_mayTake_13 (by decide) (fun c_13 n_13 => ?_) (fun c_13 n_13 => ?_)
    · skip
      obtain ⟨ex, x1, x2⟩ := ge1_nL c_13
      refine lv_iconst (v := 0) hx hb dX4_mayTake_18 (by decide) ?_
      refine tpi (x' := nI 0) (rfl) ?_
      refine lv_istore (lv' := [(4, .int (nI 0)), (0, .ref P), (1, .int (nI w)), (2, .long x)]) hx hb dX4_mayTake_19 hl (by decide) rfl (fun ls hl => ?_)
      have j_21 : ∀ (fu : Nat) (k : Nat) (ls : Array Slot), (k ≤ hcF g) → (∀ j, j < k → tkF g w j = true → nL x ≤ hv j) → (hcF g - k < fu) → lv_has ls 6 [(0, .ref P), (1, .int (nI w)), (2, .long x), (4, .int (nI k))] → W p l e ({ frames := 2, cells := 0, slots := 0, locals := 43 } : Room) s m args below meth c H [] 0 0 Q (F0 m 21 ls []) := by
        intro fu
        induction fu with
        | zero => intro k ls hkc hk hm_21 _; exact absurd hm_21 (Nat.not_lt_zero _)
        | succ fu ih_21 =>
          intro k ls hkc hk hm_21 hl
          refine lv_iload hx hb dX4_mayTake_21 (lv_at hl 3 rfl) ?_
          refine lv_aload_n hx hb dX4_mayTake_23 rfl (lv_at hl 0 rfl) ?_
          refine cpV (As := []) (rest := [.int (nI k)]) (k_X4_heapCount l D cA _ P J PH WM MT WF g t mv mi hP hg3) ⟨hx, hb, hml, hown, hts⟩ (cwV 0 hts gX4_mayTake_X4_heapCount rfl rfl rfl (by decide +kernel) ⟨by decide, by decide⟩) hK hM hP rfl rfl hl.1 rfl (Nat.le_of_ble_eq_true rfl) dX4_mayTake_24 ⟨by decide, by decide⟩ ?_
          refine bi_ge (tgt := 60) hx hb dX4_mayTake_27 (by decide) (fun c_27 n_27 => ?_) (fun c_27 n_27 => ?_)
          · skip
            have hge : hcF g ≤ k := (nI_leI (by omega) (by omega)).mp c_27
            have hall : ∀ j, j < hcF g → tkF g w j = true → nL x ≤ hv j := fun j h1 h2 => hk j (by omega) h2
            refine lv_aload_n hx hb dX4_mayTake_60 rfl (lv_at hl 0 rfl) ?_
            refine m_get (ci := 4) (C := RX4) (T := TX4) (N := 9) (v := .int (nI g)) hx hb hts in_X4 hown hK hM hP rfl 5 (by decide) fl_26 (fun _ h => h) rfl dX4_mayTake_61 ?_
            refine bz_ne (tgt := 105) hx hb dX4_mayTake_64 (by decide) (fun c_64 n_64 => ?_) (fun c_64 n_64 => ?_)
            · skip
              have q0 : ¬ g = 0 := fun z => c_64 (by rw [z]; rfl)
              refine lv_aload_n hx hb dX4_mayTake_105 rfl (lv_at hl 0 rfl) ?_
              refine m_get (ci := 4) (C := RX4) (T := TX4) (N := 9) (v := .int (nI g)) hx hb hts in_X4 hown hK hM hP rfl 5 (by decide) fl_26 (fun _ h => h) rfl dX4_mayTake_106 ?_
              refine lv_iconst (v := 2) hx hb dX4_mayTake_109 (by decide) ?_
              refine bi_ne (tgt := 122) hx hb dX4_mayTake_110 (by decide) (fun c_110 n_110 => ?_) (fun c_110 n_110 => ?_)
              · skip
                have q2 : ¬ g = 2 := fun z => c_110 (by rw [z]; rfl)
                refine lv_iconst (v := 1) hx hb dX4_mayTake_122 (by decide) ?_
                refine lv_goto (tgt := 127) hx hb dX4_mayTake_123 (by decide) ?_
                exact hret _ _ _ dX4_mayTake_127 (by unfold mtF; rw [decide_eq_true c_13, decide_eq_true ⟨hm2, hall, fun z => absurd z q0, fun z => absurd z q2⟩]; rfl)
              · skip
                have q2 : g = 2 := (nI_eq (b := 2) (by omega) (by decide)).mp c_110
                refine lv_lload_n hx hb dX4_mayTake_113 rfl (lv_at hl 2 rfl) ?_
                refine lv_aload_n hx hb dX4_mayTake_114 rfl (lv_at hl 0 rfl) ?_
                refine cpV (As := []) (rest := [.long x]) (k_X4_bound l D cA _ P J PH WM MT WF g t mv mi fh fm hv lm hP hg3 hPH hMT hfh hfm hhv ht9 hlm hmv) ⟨hx, hb, hml, hown, hts⟩ (cwV 0 hts gX4_mayTake_X4_bound rfl rfl rfl (by decide +kernel) ⟨by decide, by decide⟩) hK hM hP rfl rfl hl.1 rfl (Nat.le_of_ble_eq_true rfl) dX4_mayTake_115 ⟨by decide, by decide⟩ ?_
                refine bl_gt (tgt := 126) hx hb dX4_mayTake_118 dX4_mayTake_119 (by decide) (fun c_119 n_119 => ?_) (fun c_119 n_119 => ?_)
                · skip
                  have hbd : ¬ nL x ≤ bdV g t mv (hv 0) lm := fun z => n_119 ((leL ex rfl (by omega) (by omega)).mpr z)
                  refine lv_iconst (v := 0) hx hb dX4_mayTake_126 (by decide) ?_
                  exact hret _ _ _ dX4_mayTake_127 (by unfold mtF; rw [decide_eq_true c_13, decide_eq_false (fun z => absurd (z.2.2.2 q2) hbd)]; rfl)
                · skip
                  have hbd : nL x ≤ bdV g t mv (hv 0) lm := (leL ex rfl (by omega) (by omega)).mp c_119
                  refine lv_iconst (v := 1) hx hb dX4_mayTake_122 (by decide) ?_
                  refine lv_goto (tgt := 127) hx hb dX4_mayTake_123 (by decide) ?_
                  exact hret _ _ _ dX4_mayTake_127 (by unfold mtF; rw [decide_eq_true c_13, decide_eq_true ⟨hm2, hall, fun z => absurd z q0, fun z => hbd⟩]; rfl)
            · skip
              have q0 : g = 0 := (nI_eq (b := 0) (by omega) (by decide)).mp c_64
              have hw1 : w ≤ 1 := by rw [q0] at hw3; have : wyF 0 = 2 := rfl; omega
              refine lv_aload_n hx hb dX4_mayTake_67 rfl (lv_at hl 0 rfl) ?_
              refine m_get (ci := 4) (C := RX4) (T := TX4) (N := 9) (v := .ref PH) hx hb hts in_X4 hown hK hM hP rfl 1 (by decide) fl_11 (fun _ h => h) rfl dX4_mayTake_68 ?_
              refine lv_iload_n hx hb dX4_mayTake_71 rfl (lv_at hl 1 rfl) ?_
              refine bz_ne (tgt := 79) hx hb dX4_mayTake_72 (by decide) (fun c_72 n_72 => ?_) (fun c_72 n_72 => ?_)
              · skip
                have hw0 : w = 1 := by have : ¬ w = 0 := fun z => c_72 (by rw [z]; rfl); omega
                refine lv_iconst (v := 0) hx hb dX4_mayTake_79 (by decide) ?_
                refine m_laldN (k := 1 - w) hx hb hK hM hPH (by rw [hw0]; rfl) (by omega) (by decide) dX4_mayTake_80 ?_
                refine tpl (x' := lN (hv (1 - w))) (hfh (1 - w) (by omega)) ?_
                refine lv_lstore (lv' := [(4, .long (lN (hv (1 - w)))), (0, .ref P), (1, .int (nI w)), (2, .long x)]) hx hb dX4_mayTake_81 hl (by decide) rfl (fun ls hl => ?_)
                refine lv_lload hx hb dX4_mayTake_83 (lv_at hl 0 rfl) ?_
                refine lv_lconst (v := 0) hx hb dX4_mayTake_85 (by decide) ?_
                refine bl_le (tgt := 103) hx hb dX4_mayTake_86 dX4_mayTake_87 (by decide) (fun c_87 n_87 => ?_) (fun c_87 n_87 => ?_)
                · skip
                  have ho : ¬ 0 < hv (1 - w) := fun z => n_87 (by rw [l_0]; exact (ln_lt (by decide) (by have := hhv (1 - w); omega)).mpr z)
                  refine lv_iconst (v := 0) hx hb dX4_mayTake_103 (by decide) ?_
                  exact hret _ _ _ dX4_mayTake_104 (by unfold mtF; rw [decide_eq_true c_13, decide_eq_false (fun z => absurd (z.2.2.1 q0).1 ho)]; rfl)
                · skip
                  have ho : 0 < hv (1 - w) := (ln_lt (by decide) (by have := hhv (1 - w); omega)).mp (by rw [← l_0]; exact c_87)
                  refine lv_lload_n hx hb dX4_mayTake_90 rfl (lv_at hl 3 rfl) ?_
                  refine lv_lload hx hb dX4_mayTake_91 (lv_at hl 0 rfl) ?_
                  refine lv_lrem hx hb dX4_mayTake_93 (fun z => by have := (ln_eq (by have := hhv (1 - w); omega) (by decide)).mp (show lN (hv (1 - w)) = lN 0 by rw [z]; rfl); omega) ?_
                  refine tpl (x' := lN (nL x % hv (1 - w))) (remL ex rfl (by omega) ho (by have := hhv (1 - w); omega)) ?_
                  refine lv_lconst (v := 0) hx hb dX4_mayTake_94 (by decide) ?_
                  refine bl_ne (tgt := 103) hx hb dX4_mayTake_95 dX4_mayTake_96 (by decide) (fun c_96 n_96 => ?_) (fun c_96 n_96 => ?_)
                  · skip
                    have hrm : ¬ nL x % hv (1 - w) = 0 := fun z => c_96 (by rw [z]; rfl)
                    refine lv_iconst (v := 0) hx hb dX4_mayTake_103 (by decide) ?_
                    exact hret _ _ _ dX4_mayTake_104 (by unfold mtF; rw [decide_eq_true c_13, decide_eq_false (fun z => absurd (z.2.2.1 q0).2 hrm)]; rfl)
                  · skip
                    have hrm : nL x % hv (1 - w) = 0 := (ln_eq (by have := Nat.mod_lt (nL x) ho; have := hhv (1 - w); omega) (by decide)).mp (by rw [← l_0]; exact c_96)
                    refine lv_iconst (v := 1) hx hb dX4_mayTake_99 (by decide) ?_
                    refine lv_goto (tgt := 104) hx hb dX4_mayTake_100 (by decide) ?_
                    exact hret _ _ _ dX4_mayTake_104 (by unfold mtF; rw [decide_eq_true c_13, decide_eq_true ⟨hm2, hall, fun _ => ⟨ho, hrm⟩, fun z => absurd z (by omega)⟩]; rfl)
              · skip
                have hw0 : w = 0 := (nI_eq (b := 0) (by omega) (by decide)).mp c_72
                refine lv_iconst (v := 1) hx hb dX4_mayTake_75 (by decide) ?_
                refine lv_goto (tgt := 80) hx hb dX4_mayTake_76 (by decide) ?_
                refine m_laldN (k := 1 - w) hx hb hK hM hPH (by rw [hw0]; rfl) (by omega) (by decide) dX4_mayTake_80 ?_
                refine tpl (x' := lN (hv (1 - w))) (hfh (1 - w) (by omega)) ?_
                refine lv_lstore (lv' := [(4, .long (lN (hv (1 - w)))), (0, .ref P), (1, .int (nI w)), (2, .long x)]) hx hb dX4_mayTake_81 hl (by decide) rfl (fun ls hl => ?_)
                refine lv_lload hx hb dX4_mayTake_83 (lv_at hl 0 rfl) ?_
                refine lv_lconst (v := 0) hx hb dX4_mayTake_85 (by decide) ?_
                refine bl_le (tgt := 103) hx hb dX4_mayTake_86 dX4_mayTake_87 (by decide) (fun c_87 n_87 => ?_) (fun c_87 n_87 => ?_)
                · skip
                  have ho : ¬ 0 < hv (1 - w) := fun z => n_87 (by rw [l_0]; exact (ln_lt (by decide) (by have := hhv (1 - w); omega)).mpr z)
                  refine lv_iconst (v := 0) hx hb dX4_mayTake_103 (by decide) ?_
                  exact hret _ _ _ dX4_mayTake_104 (by unfold mtF; rw [decide_eq_true c_13, decide_eq_false (fun z => absurd (z.2.2.1 q0).1 ho)]; rfl)
                · skip
                  have ho : 0 < hv (1 - w) := (ln_lt (by decide) (by have := hhv (1 - w); omega)).mp (by rw [← l_0]; exact c_87)
                  refine lv_lload_n hx hb dX4_mayTake_90 rfl (lv_at hl 3 rfl) ?_
                  refine lv_lload hx hb dX4_mayTake_91 (lv_at hl 0 rfl) ?_
                  refine lv_lrem hx hb dX4_mayTake_93 (fun z => by have := (ln_eq (by have := hhv (1 - w); omega) (by decide)).mp (show lN (hv (1 - w)) = lN 0 by rw [z]; rfl); omega) ?_
                  refine tpl (x' := lN (nL x % hv (1 - w))) (remL ex rfl (by omega) ho (by have := hhv (1 - w); omega)) ?_
                  refine lv_lconst (v := 0) hx hb dX4_mayTake_94 (by decide) ?_
                  refine bl_ne (tgt := 103) hx hb dX4_mayTake_95 dX4_mayTake_96 (by decide) (fun c_96 n_96 => ?_) (fun c_96 n_96 => ?_)
                  · skip
                    have hrm : ¬ nL x % hv (1 - w) = 0 := fun z => c_96 (by rw [z]; rfl)
                    refine lv_iconst (v := 0) hx hb dX4_mayTake_103 (by decide) ?_
                    exact hret _ _ _ dX4_mayTake_104 (by unfold mtF; rw [decide_eq_true c_13, decide_eq_false (fun z => absurd (z.2.2.1 q0).2 hrm)]; rfl)
                  · skip
                    have hrm : nL x % hv (1 - w) = 0 := (ln_eq (by have := Nat.mod_lt (nL x) ho; have := hhv (1 - w); omega) (by decide)).mp (by rw [← l_0]; exact c_96)
                    refine lv_iconst (v := 1) hx hb dX4_mayTake_99 (by decide) ?_
                    refine lv_goto (tgt := 104) hx hb dX4_mayTake_100 (by decide) ?_
                    exact hret _ _ _ dX4_mayTake_104 (by unfold mtF; rw [decide_eq_true c_13, decide_eq_true ⟨hm2, hall, fun _ => ⟨ho, hrm⟩, fun z => absurd z (by omega)⟩]; rfl)
          · skip
            have hlt : k < hcF g := (nI_ltI (by omega) (by omega)).mp c_27
            refine lv_aload_n hx hb dX4_mayTake_30 rfl (lv_at hl 0 rfl) ?_
            refine lv_iload_n hx hb dX4_mayTake_31 rfl (lv_at hl 1 rfl) ?_
            refine lv_iload hx hb dX4_mayTake_32 (lv_at hl 3 rfl) ?_
            refine cpV (As := [.int (nI w), .int (nI k)]) (rest := []) (k_X4_takesFrom l D cA _ P J PH WM MT WF g t mv mi w k hP hg3 (by omega) (by omega)) ⟨hx, hb, hml, hown, hts⟩ (cwV 2 hts gX4_mayTake_X4_takesFrom rfl rfl rfl (by decide +kernel) ⟨by decide, by decide⟩) hK hM hP rfl rfl hl.1 rfl (Nat.le_of_ble_eq_true rfl) dX4_mayTake_34 ⟨by decide, by decide⟩ ?_
            refine bz_eq (tgt := 54) hx hb dX4_mayTake_37 (by decide) (fun c_37 n_37 => ?_) (fun c_37 n_37 => ?_)
            · skip
              have htk := bI_eq0 c_37
              refine lv_iinc (v := nI (k + 1)) (lv' := [(4, .int (nI (k + 1))), (0, .ref P), (1, .int (nI w)), (2, .long x)]) hx hb dX4_mayTake_54 hl (k := 3) rfl (nI_up k) (by decide) rfl (fun ls hl => ?_)
              refine lv_goto (tgt := 21) hx hb dX4_mayTake_57 (by decide) ?_
              exact ih_21 (k + 1) _ (by omega) (fun j hj h2 => by by_cases e : j = k; (rw [e, htk] at h2; cases h2); exact hk j (by omega) h2) (by omega) (lv_sub hl [1, 2, 3, 0] rfl)
            · skip
              have htk := bI_ne0 c_37
              refine lv_lload_n hx hb dX4_mayTake_40 rfl (lv_at hl 2 rfl) ?_
              refine lv_aload_n hx hb dX4_mayTake_41 rfl (lv_at hl 0 rfl) ?_
              refine m_get (ci := 4) (C := RX4) (T := TX4) (N := 9) (v := .ref PH) hx hb hts in_X4 hown hK hM hP rfl 1 (by decide) fl_11 (fun _ h => h) rfl dX4_mayTake_42 ?_
              refine lv_iload hx hb dX4_mayTake_45 (lv_at hl 3 rfl) ?_
              refine m_laldN (k := k) hx hb hK hM hPH (rfl) (by omega) (by decide) dX4_mayTake_47 ?_
              refine tpl (x' := lN (hv k)) (hfh k (by omega)) ?_
              refine bl_le (tgt := 54) hx hb dX4_mayTake_48 dX4_mayTake_49 (by decide) (fun c_49 n_49 => ?_) (fun c_49 n_49 => ?_)
              · skip
                have hle : nL x ≤ hv k := (leL ex rfl (by omega) (by have := hhv k; omega)).mp c_49
                refine lv_iinc (v := nI (k + 1)) (lv' := [(4, .int (nI (k + 1))), (0, .ref P), (1, .int (nI w)), (2, .long x)]) hx hb dX4_mayTake_54 hl (k := 3) rfl (nI_up k) (by decide) rfl (fun ls hl => ?_)
                refine lv_goto (tgt := 21) hx hb dX4_mayTake_57 (by decide) ?_
                exact ih_21 (k + 1) _ (by omega) (fun j hj h2 => by by_cases e : j = k; (rw [e]; exact hle); exact hk j (by omega) h2) (by omega) (lv_sub hl [1, 2, 3, 0] rfl)
              · skip
                have hle : ¬ nL x ≤ hv k := fun z => n_49 ((leL ex rfl (by omega) (by have := hhv k; omega)).mpr z)
                refine lv_iconst (v := 0) hx hb dX4_mayTake_52 (by decide) ?_
                exact hret _ _ _ dX4_mayTake_53 (by unfold mtF; rw [decide_eq_true c_13, decide_eq_false (fun z => absurd (z.2.1 k hlt htk) hle)]; rfl)
      exact j_21 (4) 0 _ (Nat.zero_le _) (fun j hj => absurd hj (Nat.not_lt_zero _)) (by omega) (lv_sub hl [1, 2, 3, 0] rfl)
    · skip
      refine lv_iconst (v := 0) hx hb dX4_mayTake_16 (by decide) ?_
      exact hret _ _ _ dX4_mayTake_17 (by unfold mtF; rw [decide_eq_false n_13]; rfl)
set_option maxHeartbeats 1000000 in
set_option maxRecDepth 100000 in
theorem k_X4_isOver (l : Launch) (D : va_G) (cA : Nat → ClassId) (M : mp) (P J PH WM MT WF g t mv : Nat) (mi : Bool) (fh fm : Nat → Int64) (hv : Nat → Nat) (lm : Nat)  (hP : M P = some (.inr (4, [.ref J, .ref PH, .ref WM, .ref MT, .ref WF, .int (nI g), .int (bI mi), .int (nI t), .int (nI mv)]))) (hg3 : g ≤ 3) (hPH : M PH = some (.inl (cA 0, 3, .inr (.inl fh)))) (hMT : M MT = some (.inl (cA 0, 200, .inr (.inl fm)))) (hfh : ∀ k, k < 3 → fh k = lN (hv k)) (hfm : 1 ≤ mv → fm (mv - 1) = lN lm) (hhv : ∀ k, hv k ≤ 1000000000000) (ht9 : t ≤ 9) (hlm : lm ≤ 1000000000000) (hmv : mv ≤ 200)  : PC l D cA yX4_isOver wsX4_isOver 2 43 [.ref P] M (some (.int (bI (ovF g hv (bdV g t mv (hv 0) lm))))) := by
  refine PC.zz (cc := cX4_isOver) (maxL := 1) (by decide) rfl (Nat.le_of_ble_eq_true rfl) ?_
  intro p e s m args below meth c H Q ls B hM hl hret
  obtain ⟨hx, hb, hown, hts, hml, hK, hin⟩ := B
  have hown : s.vm.findClass RX4 = some m.cls := hown
  have hl : lv_has ls 1 [(0, .ref P)] := hl
  have in_X4 : ∀ w ∈ wsX40, w ∈ wsX4_isOver := by decide +kernel
  have fl_26 := hts (.fieldLink RX4 26 "GoldHeaps$Play" "game" "I") (by decide +kernel)
  have fl_11 := hts (.fieldLink RX4 11 "GoldHeaps$Play" "heaps" "[J") (by decide +kernel)
  have hh0 := hhv 0
  have hh1 := hhv 1
  have hh2 := hhv 2
  have hbl := bdV_le (g := g) (t := t) (mv := mv) (lm := lm) (hhv 0)
  refine lv_aload_n hx hb dX4_isOver_0 rfl (lv_at hl 0 rfl) ?_
  refine m_get (ci := 4) (C := RX4) (T := TX4) (N := 9) (v := .int (nI g)) hx hb hts in_X4 hown hK hM hP rfl 5 (by decide) fl_26 (fun _ h => h) rfl dX4_isOver_1 ?_
  refine bz_ne (tgt := 35) hx hb dX4_isOver_4 (by decide) (fun c_4 n_4 => ?_) (fun c_4 n_4 => ?_)
  · skip
    have q0 : ¬ g = 0 := fun z => c_4 (by rw [z]; rfl)
    refine lv_aload_n hx hb dX4_isOver_35 rfl (lv_at hl 0 rfl) ?_
    refine m_get (ci := 4) (C := RX4) (T := TX4) (N := 9) (v := .int (nI g)) hx hb hts in_X4 hown hK hM hP rfl 5 (by decide) fl_26 (fun _ h => h) rfl dX4_isOver_36 ?_
    refine lv_iconst (v := 2) hx hb dX4_isOver_39 (by decide) ?_
    refine bi_ne (tgt := 69) hx hb dX4_isOver_40 (by decide) (fun c_40 n_40 => ?_) (fun c_40 n_40 => ?_)
    · skip
      have q2 : ¬ g = 2 := fun z => c_40 (by rw [z]; rfl)
      refine lv_aload_n hx hb dX4_isOver_69 rfl (lv_at hl 0 rfl) ?_
      refine m_get (ci := 4) (C := RX4) (T := TX4) (N := 9) (v := .ref PH) hx hb hts in_X4 hown hK hM hP rfl 1 (by decide) fl_11 (fun _ h => h) rfl dX4_isOver_70 ?_
      refine lv_iconst (v := 0) hx hb dX4_isOver_73 (by decide) ?_
      refine m_laldN (k := 0) hx hb hK hM hPH (rfl) (by decide) (by decide) dX4_isOver_74 ?_
      refine tpl (x' := lN (hv 0)) (hfh 0 (by decide)) ?_
      refine lv_lconst (v := 0) hx hb dX4_isOver_75 (by decide) ?_
      refine bl_ne (tgt := 106) hx hb dX4_isOver_76 dX4_isOver_77 (by decide) (fun c_77 n_77 => ?_) (fun c_77 n_77 => ?_)
      · skip
        have z77 : ¬ hv 0 = 0 := fun z => c_77 (by rw [z]; rfl)
        refine lv_iconst (v := 0) hx hb dX4_isOver_106 (by decide) ?_
        exact hret _ _ _ dX4_isOver_107 (by unfold ovF; rw [if_neg q0, if_neg q2, decide_eq_false z77]; rfl)
      · skip
        have z77 : hv 0 = 0 := (ln_eq (by omega) (by decide)).mp (by rw [← l_0]; exact c_77)
        refine lv_aload_n hx hb dX4_isOver_80 rfl (lv_at hl 0 rfl) ?_
        refine m_get (ci := 4) (C := RX4) (T := TX4) (N := 9) (v := .ref PH) hx hb hts in_X4 hown hK hM hP rfl 1 (by decide) fl_11 (fun _ h => h) rfl dX4_isOver_81 ?_
        refine lv_iconst (v := 1) hx hb dX4_isOver_84 (by decide) ?_
        refine m_laldN (k := 1) hx hb hK hM hPH (rfl) (by decide) (by decide) dX4_isOver_85 ?_
        refine tpl (x' := lN (hv 1)) (hfh 1 (by decide)) ?_
        refine lv_lconst (v := 0) hx hb dX4_isOver_86 (by decide) ?_
        refine bl_ne (tgt := 106) hx hb dX4_isOver_87 dX4_isOver_88 (by decide) (fun c_88 n_88 => ?_) (fun c_88 n_88 => ?_)
        · skip
          have z88 : ¬ hv 1 = 0 := fun z => c_88 (by rw [z]; rfl)
          refine lv_iconst (v := 0) hx hb dX4_isOver_106 (by decide) ?_
          exact hret _ _ _ dX4_isOver_107 (by unfold ovF; rw [if_neg q0, if_neg q2, decide_eq_true z77, decide_eq_false z88]; rfl)
        · skip
          have z88 : hv 1 = 0 := (ln_eq (by omega) (by decide)).mp (by rw [← l_0]; exact c_88)
          refine lv_aload_n hx hb dX4_isOver_91 rfl (lv_at hl 0 rfl) ?_
          refine m_get (ci := 4) (C := RX4) (T := TX4) (N := 9) (v := .ref PH) hx hb hts in_X4 hown hK hM hP rfl 1 (by decide) fl_11 (fun _ h => h) rfl dX4_isOver_92 ?_
          refine lv_iconst (v := 2) hx hb dX4_isOver_95 (by decide) ?_
          refine m_laldN (k := 2) hx hb hK hM hPH (rfl) (by decide) (by decide) dX4_isOver_96 ?_
          refine tpl (x' := lN (hv 2)) (hfh 2 (by decide)) ?_
          refine lv_lconst (v := 0) hx hb dX4_isOver_97 (by decide) ?_
          refine bl_ne (tgt := 106) hx hb dX4_isOver_98 dX4_isOver_99 (by decide) (fun c_99 n_99 => ?_) (fun c_99 n_99 => ?_)
          · skip
            have z99 : ¬ hv 2 = 0 := fun z => c_99 (by rw [z]; rfl)
            refine lv_iconst (v := 0) hx hb dX4_isOver_106 (by decide) ?_
            exact hret _ _ _ dX4_isOver_107 (by unfold ovF; rw [if_neg q0, if_neg q2, decide_eq_true z77, decide_eq_true z88, decide_eq_false z99]; rfl)
          · skip
            have z99 : hv 2 = 0 := (ln_eq (by omega) (by decide)).mp (by rw [← l_0]; exact c_99)
            refine lv_iconst (v := 1) hx hb dX4_isOver_102 (by decide) ?_
            refine lv_goto (tgt := 107) hx hb dX4_isOver_103 (by decide) ?_
            exact hret _ _ _ dX4_isOver_107 (by unfold ovF; rw [if_neg q0, if_neg q2, decide_eq_true z77, decide_eq_true z88, decide_eq_true z99]; rfl)
    · skip
      have q2 : g = 2 := (nI_eq (b := 2) (by omega) (by decide)).mp c_40
      refine lv_aload_n hx hb dX4_isOver_43 rfl (lv_at hl 0 rfl) ?_
      refine m_get (ci := 4) (C := RX4) (T := TX4) (N := 9) (v := .ref PH) hx hb hts in_X4 hown hK hM hP rfl 1 (by decide) fl_11 (fun _ h => h) rfl dX4_isOver_44 ?_
      refine lv_iconst (v := 0) hx hb dX4_isOver_47 (by decide) ?_
      refine m_laldN (k := 0) hx hb hK hM hPH (rfl) (by decide) (by decide) dX4_isOver_48 ?_
      refine tpl (x' := lN (hv 0)) (hfh 0 (by decide)) ?_
      refine lv_lconst (v := 0) hx hb dX4_isOver_49 (by decide) ?_
      refine bl_eq (tgt := 63) hx hb dX4_isOver_50 dX4_isOver_51 (by decide) (fun c_51 n_51 => ?_) (fun c_51 n_51 => ?_)
      · skip
        have z51 : hv 0 = 0 := (ln_eq (by omega) (by decide)).mp (by rw [← l_0]; exact c_51)
        refine lv_iconst (v := 1) hx hb dX4_isOver_63 (by decide) ?_
        refine lv_goto (tgt := 68) hx hb dX4_isOver_64 (by decide) ?_
        exact hret _ _ _ dX4_isOver_68 (by unfold ovF; rw [if_neg q0, if_pos q2, decide_eq_true z51]; rfl)
      · skip
        have z51 : ¬ hv 0 = 0 := fun z => c_51 (by rw [z]; rfl)
        refine lv_aload_n hx hb dX4_isOver_54 rfl (lv_at hl 0 rfl) ?_
        refine cpV (As := []) (rest := []) (k_X4_bound l D cA _ P J PH WM MT WF g t mv mi fh fm hv lm hP hg3 hPH hMT hfh hfm hhv ht9 hlm hmv) ⟨hx, hb, hml, hown, hts⟩ (cwV 0 hts gX4_isOver_X4_bound rfl rfl rfl (by decide +kernel) ⟨by decide, by decide⟩) hK hM hP rfl rfl hl.1 rfl (Nat.le_of_ble_eq_true rfl) dX4_isOver_55 ⟨by decide, by decide⟩ ?_
        refine lv_lconst (v := 0) hx hb dX4_isOver_58 (by decide) ?_
        refine bl_ne (tgt := 67) hx hb dX4_isOver_59 dX4_isOver_60 (by decide) (fun c_60 n_60 => ?_) (fun c_60 n_60 => ?_)
        · skip
          have z60 : ¬ bdV g t mv (hv 0) lm = 0 := fun z => c_60 (by rw [z]; rfl)
          refine lv_iconst (v := 0) hx hb dX4_isOver_67 (by decide) ?_
          exact hret _ _ _ dX4_isOver_68 (by unfold ovF; rw [if_neg q0, if_pos q2, decide_eq_false z51, decide_eq_false z60]; rfl)
        · skip
          have z60 : bdV g t mv (hv 0) lm = 0 := (ln_eq (by omega) (by decide)).mp (by rw [← l_0]; exact c_60)
          refine lv_iconst (v := 1) hx hb dX4_isOver_63 (by decide) ?_
          refine lv_goto (tgt := 68) hx hb dX4_isOver_64 (by decide) ?_
          exact hret _ _ _ dX4_isOver_68 (by unfold ovF; rw [if_neg q0, if_pos q2, decide_eq_false z51, decide_eq_true z60]; rfl)
  · skip
    have q0 : g = 0 := (nI_eq (b := 0) (by omega) (by decide)).mp c_4
    refine lv_aload_n hx hb dX4_isOver_7 rfl (lv_at hl 0 rfl) ?_
    refine m_get (ci := 4) (C := RX4) (T := TX4) (N := 9) (v := .ref PH) hx hb hts in_X4 hown hK hM hP rfl 1 (by decide) fl_11 (fun _ h => h) rfl dX4_isOver_8 ?_
    refine lv_iconst (v := 0) hx hb dX4_isOver_11 (by decide) ?_
    refine m_laldN (k := 0) hx hb hK hM hPH (rfl) (by decide) (by decide) dX4_isOver_12 ?_
    refine tpl (x' := lN (hv 0)) (hfh 0 (by decide)) ?_
    refine lv_lconst (v := 0) hx hb dX4_isOver_13 (by decide) ?_
    refine bl_eq (tgt := 29) hx hb dX4_isOver_14 dX4_isOver_15 (by decide) (fun c_15 n_15 => ?_) (fun c_15 n_15 => ?_)
    · skip
      have z15 : hv 0 = 0 := (ln_eq (by omega) (by decide)).mp (by rw [← l_0]; exact c_15)
      refine lv_iconst (v := 1) hx hb dX4_isOver_29 (by decide) ?_
      refine lv_goto (tgt := 34) hx hb dX4_isOver_30 (by decide) ?_
      exact hret _ _ _ dX4_isOver_34 (by unfold ovF; rw [if_pos q0, decide_eq_true z15]; rfl)
    · skip
      have z15 : ¬ hv 0 = 0 := fun z => c_15 (by rw [z]; rfl)
      refine lv_aload_n hx hb dX4_isOver_18 rfl (lv_at hl 0 rfl) ?_
      refine m_get (ci := 4) (C := RX4) (T := TX4) (N := 9) (v := .ref PH) hx hb hts in_X4 hown hK hM hP rfl 1 (by decide) fl_11 (fun _ h => h) rfl dX4_isOver_19 ?_
      refine lv_iconst (v := 1) hx hb dX4_isOver_22 (by decide) ?_
      refine m_laldN (k := 1) hx hb hK hM hPH (rfl) (by decide) (by decide) dX4_isOver_23 ?_
      refine tpl (x' := lN (hv 1)) (hfh 1 (by decide)) ?_
      refine lv_lconst (v := 0) hx hb dX4_isOver_24 (by decide) ?_
      refine bl_ne (tgt := 33) hx hb dX4_isOver_25 dX4_isOver_26 (by decide) (fun c_26 n_26 => ?_) (fun c_26 n_26 => ?_)
      · skip
        have z26 : ¬ hv 1 = 0 := fun z => c_26 (by rw [z]; rfl)
        refine lv_iconst (v := 0) hx hb dX4_isOver_33 (by decide) ?_
        exact hret _ _ _ dX4_isOver_34 (by unfold ovF; rw [if_pos q0, decide_eq_false z15, decide_eq_false z26]; rfl)
      · skip
        have z26 : hv 1 = 0 := (ln_eq (by omega) (by decide)).mp (by rw [← l_0]; exact c_26)
        refine lv_iconst (v := 1) hx hb dX4_isOver_29 (by decide) ?_
        refine lv_goto (tgt := 34) hx hb dX4_isOver_30 (by decide) ?_
        exact hret _ _ _ dX4_isOver_34 (by unfold ovF; rw [if_pos q0, decide_eq_false z15, decide_eq_true z26]; rfl)
set_option maxHeartbeats 1000000 in
set_option maxRecDepth 100000 in
theorem k_X4_addToHeaps (l : Launch) (D : va_G) (cA : Nat → ClassId) (M : mp) (P J PH WM MT WF g t mv : Nat) (mi : Bool) (fh : Nat → Int64) (w : Nat) (x : Int64)  (hP : M P = some (.inr (4, [.ref J, .ref PH, .ref WM, .ref MT, .ref WF, .int (nI g), .int (bI mi), .int (nI t), .int (nI mv)]))) (hg3 : g ≤ 3) (hPH : M PH = some (.inl (cA 0, 3, .inr (.inl fh)))) (hw3 : w ≤ 3)  : MC l D cA yX4_addToHeaps wsX4_addToHeaps 2 42 0 0 [.ref P, .int (nI w), .long x] M (fun r M' => r = none ∧ (∃ f', M' PH = some (.inl (cA 0, 3, .inr (.inl f'))) ∧ ∀ j, f' j = if j < hcF g ∧ tkF g w j = true then fh j + x else fh j) ∧ kpL M M' [PH]) := by
  refine MC.of (cc := cX4_addToHeaps) (maxL := 5) (ret := none) (by decide) rfl (Nat.le_of_ble_eq_true rfl) ?_
  intro p e s m args below meth c Q ls B hh hl hretv hreti hretz hretl hreta
  obtain ⟨hx, hb, hown, hts, hml, hK, hin⟩ := B
  have hM := hh.1
  have hM_0 := hh.1
  have hkp : kpL M M [PH] := kpL.rf M _
  have hown : s.vm.findClass RX4 = some m.cls := hown
  have hl : lv_has ls 5 [(0, .ref P), (1, .int (nI w)), (2, .long x)] := hl
  have in_X4 : ∀ w ∈ wsX40, w ∈ wsX4_addToHeaps := by decide +kernel
  have fl_11 := hts (.fieldLink RX4 11 "GoldHeaps$Play" "heaps" "[J") (by decide +kernel)
  have hc3 := hcF_le g
  refine lv_iconst (v := 0) hx hb dX4_addToHeaps_0 (by decide) ?_
  refine tpi (x' := nI 0) (rfl) ?_
  refine lv_istore (lv' := [(4, .int (nI 0)), (0, .ref P), (1, .int (nI w)), (2, .long x)]) hx hb dX4_addToHeaps_1 hl (by decide) rfl (fun ls hl => ?_)
  have j_3 : ∀ (fu : Nat) (k : Nat) (f1 : Nat → Int64) (M1 : mp) (H : Heap) (locs : List Loc) (ls : Array Slot), (k ≤ hcF g) → (∀ j, f1 j = if j < k ∧ tkF g w j = true then fh j + x else fh j) → (hw D M s.heap M1 H locs) → (kpL M M1 [PH]) → (M1 P = some (.inr (4, [.ref J, .ref PH, .ref WM, .ref MT, .ref WF, .int (nI g), .int (bI mi), .int (nI t), .int (nI mv)]))) → (M1 PH = some (.inl (cA 0, 3, .inr (.inl f1)))) → (hcF g - k < fu) → lv_has ls 5 [(0, .ref P), (1, .int (nI w)), (2, .long x), (4, .int (nI k))] → W p l e ({ frames := 2, cells := 0, slots := 0, locals := 42 } : Room) s m args below meth c H locs 0 0 Q (F0 m 3 ls []) := by
    intro fu
    induction fu with
    | zero => intro k f1 M1 H locs ls hk hf hh hkp hP hPH hm_3 _; exact absurd hm_3 (Nat.not_lt_zero _)
    | succ fu ih_3 =>
      intro k f1 M1 H locs ls hk hf hh hkp hP hPH hm_3 hl
      have hM := hh.1
      refine lv_iload hx hb dX4_addToHeaps_3 (lv_at hl 3 rfl) ?_
      refine lv_aload_n hx hb dX4_addToHeaps_5 rfl (lv_at hl 0 rfl) ?_
      refine cpV (As := []) (rest := [.int (nI k)]) (k_X4_heapCount l D cA _ P J PH WM MT WF g t mv mi hP hg3) ⟨hx, hb, hml, hown, hts⟩ (cwV 0 hts gX4_addToHeaps_X4_heapCount rfl rfl rfl (by decide +kernel) ⟨by decide, by decide⟩) hK hM hP rfl rfl hl.1 rfl (Nat.le_of_ble_eq_true rfl) dX4_addToHeaps_6 ⟨by decide, by decide⟩ ?_
      refine bi_ge (tgt := 39) hx hb dX4_addToHeaps_9 (by decide) (fun c_9 n_9 => ?_) (fun c_9 n_9 => ?_)
      · skip
        have hge : hcF g ≤ k := (nI_leI (by omega) (by omega)).mp c_9
        have ek : k = hcF g := by omega
        exact hretv _ _ _ _ _ _ _ hh (⟨rfl, ⟨f1, hPH, fun j => by rw [hf j, ek]⟩, hkp⟩) (by decide) (by decide) dX4_addToHeaps_39 rfl
      · skip
        have hlt : k < hcF g := (nI_ltI (by omega) (by omega)).mp c_9
        refine lv_aload_n hx hb dX4_addToHeaps_12 rfl (lv_at hl 0 rfl) ?_
        refine lv_iload_n hx hb dX4_addToHeaps_13 rfl (lv_at hl 1 rfl) ?_
        refine lv_iload hx hb dX4_addToHeaps_14 (lv_at hl 3 rfl) ?_
        refine cpV (As := [.int (nI w), .int (nI k)]) (rest := []) (k_X4_takesFrom l D cA _ P J PH WM MT WF g t mv mi w k hP hg3 (by omega) (by omega)) ⟨hx, hb, hml, hown, hts⟩ (cwV 2 hts gX4_addToHeaps_X4_takesFrom rfl rfl rfl (by decide +kernel) ⟨by decide, by decide⟩) hK hM hP rfl rfl hl.1 rfl (Nat.le_of_ble_eq_true rfl) dX4_addToHeaps_16 ⟨by decide, by decide⟩ ?_
        refine bz_eq (tgt := 33) hx hb dX4_addToHeaps_19 (by decide) (fun c_19 n_19 => ?_) (fun c_19 n_19 => ?_)
        · skip
          have htk := bI_eq0 c_19
          refine lv_iinc (v := nI (k + 1)) (lv' := [(4, .int (nI (k + 1))), (0, .ref P), (1, .int (nI w)), (2, .long x)]) hx hb dX4_addToHeaps_33 hl (k := 3) rfl (nI_up k) (by decide) rfl (fun ls hl => ?_)
          refine lv_goto (tgt := 3) hx hb dX4_addToHeaps_36 (by decide) ?_
          exact ih_3 (k + 1) f1 _ _ _ _ (by omega) (fun j => by rw [hf j]; by_cases e : j = k; (rw [e]; simp [htk]); (have e2 : (j < k + 1) ↔ (j < k) := (by omega); simp [e2])) hh hkp hP hPH (by omega) (lv_sub hl [1, 2, 3, 0] rfl)
        · skip
          have htk := bI_ne0 c_19
          refine lv_aload_n hx hb dX4_addToHeaps_22 rfl (lv_at hl 0 rfl) ?_
          refine m_get (ci := 4) (C := RX4) (T := TX4) (N := 9) (v := .ref PH) hx hb hts in_X4 hown hK hM hP rfl 1 (by decide) fl_11 (fun _ h => h) rfl dX4_addToHeaps_23 ?_
          refine lv_iload hx hb dX4_addToHeaps_26 (lv_at hl 3 rfl) ?_
          refine lv_dup2_11 hx hb dX4_addToHeaps_28 rfl rfl ?_
          refine m_laldN (k := k) hx hb hK hM hPH (rfl) (by omega) (by decide) dX4_addToHeaps_29 ?_
          refine tpl (x' := fh k) (by rw [hf k]; simp) ?_
          refine lv_lload_n hx hb dX4_addToHeaps_30 rfl (lv_at hl 2 rfl) ?_
          refine lv_ladd hx hb dX4_addToHeaps_31 ?_
          refine m_lastN (k := k) hx hb hK hh hPH (rfl) (by omega) (by decide) dX4_addToHeaps_32 (fun M1 H1 locs1 e1 hh => ?_)
          have hP := mu_kp e1 (mp_ne hP hPH (by simp)) hP
          have hPH := mu_at e1
          have hkp := hkp.put e1 (by simp)
          have hPH : M1 PH = some (.inl (cA 0, 3, .inr (.inl (vp_updL f1 k (fh k + x))))) := hPH
          have hM := hh.1
          refine lv_iinc (v := nI (k + 1)) (lv' := [(4, .int (nI (k + 1))), (0, .ref P), (1, .int (nI w)), (2, .long x)]) hx hb dX4_addToHeaps_33 hl (k := 3) rfl (nI_up k) (by decide) rfl (fun ls hl => ?_)
          refine lv_goto (tgt := 3) hx hb dX4_addToHeaps_36 (by decide) ?_
          exact ih_3 (k + 1) ((vp_updL f1 k (fh k + x))) _ _ _ _ (by omega) (fun j => by by_cases e : j = k; (rw [e, pk_uLs]; simp [htk]); (rw [pk_uLn e, hf j]; have e2 : (j < k + 1) ↔ (j < k) := (by omega); simp [e2])) hh hkp hP hPH (by omega) (lv_sub hl [1, 2, 3, 0] rfl)
  exact j_3 (4) 0 fh _ _ _ _ (Nat.zero_le _) (fun j => by rw [if_neg (fun z => absurd z.1 (Nat.not_lt_zero _))]) hh hkp hP hPH (by omega) (lv_sub hl [1, 2, 3, 0] rfl)
