theorem tm_eq {t n b : Nat} (h1 : 1 ≤ t) (h9 : t ≤ 9) : (if tiF t n b = true then lN (enD t n) else 0) = (if enD t n ≤ b then lN (enD t n) else 0) := by
  unfold tiF
  rcases Nat.eq_zero_or_pos n with g | g
  · subst g
    rw [enD_0 h1 h9]
    simp
    rfl
  · rw [decide_eq_true g]
    simp
set_option maxHeartbeats 1000000 in
set_option maxRecDepth 100000 in
theorem k_X7_leastTaken (l : Launch) (D : va_G) (cA : Nat → ClassId) (M : mp) (tg sm t n b : Nat) (hT : M tg = some (.inr (7, [.ref sm]))) (hW0 : smW cA M sm) (ht1 : 1 ≤ t) (ht9 : t ≤ 9) (hn : n ≤ 1000000000000) (hb0 : b ≤ 1000000000000) : MC l D cA yX7_leastTaken wsX7_leastTaken 3 68 3 242 [.ref tg, .int (nI t), .long (lN n), .long (lN b)] M (fun r M' => r = some (.long (if enD t n ≤ b then lN (enD t n) else 0)) ∧ smW cA M' sm ∧ kpL M M' [sm]) := by
  refine MC.of (cc := cX7_leastTaken) (maxL := 8) (ret := (some .long)) (by decide) rfl (Nat.le_of_ble_eq_true rfl) ?_
  intro p e s m args below meth c Q ls B hh hl hretv hreti hretz hretl hreta
  obtain ⟨hx, hb, hown, hts, hml, hK, hin⟩ := B
  have hM := hh.1
  have hM_0 := hh.1
  have hkp : kpL M M [sm] := kpL.rf M _
  have hown : s.vm.findClass RX7 = some m.cls := hown
  have hl : lv_has ls 8 [(0, .ref tg), (1, .int (nI t)), (2, .long (lN n)), (4, .long (lN b))] := hl
  have hle := enD_le t n
  refine lv_aload_n hx hb dX7_leastTaken_0 rfl (lv_at hl 0 rfl) ?_
  refine lv_iload_n hx hb dX7_leastTaken_1 rfl (lv_at hl 1 rfl) ?_
  refine cmV (As := [.int (nI t)]) (rest := []) (k_X7_sumsBy l D cA _ tg sm t hT hW0 ht1 ht9) ⟨hx, hb, hml, hown, hts⟩ (cwV 1 hts gX7_leastTaken_X7_sumsBy rfl rfl rfl (by decide +kernel) ⟨by decide, by decide⟩) hK hh hT rfl rfl hl.1 rfl (Nat.le_of_ble_eq_true rfl) dX7_leastTaken_2 ⟨by decide, by decide⟩ (fun v9 M1 H1 locs1 hpost hh hz9 hk9 hn9 => ?_)
  obtain ⟨⟨sa, rfl, hsw⟩, hW1, hkc⟩ := hpost
  obtain ⟨n0, f, hS1, hN1, hf1⟩ := id hsw
  have hS : M1 sa = some (.inr (6, [.ref n0, .int (nI (rsz (t)))])) := hS1
  have hkp := hkp.call hkc (by simp)
  have hM := hh.1
  refine W.widen (k := 3) (n := 242) (by decide) (by decide) ?_
  refine W.eq (g2 := F0 m 5 ls [.ref sa]) rfl ?_
  refine lv_lload_n hx hb dX7_leastTaken_5 rfl (lv_at hl 2 rfl) ?_
  refine cpV (As := [.long (lN n)]) (rest := []) (k_X6_endOf l D cA _ t sa n hsw ht1 ht9 hn) ⟨hx, hb, hml, hown, hts⟩ (cwV 1 hts gX7_leastTaken_X6_endOf rfl rfl rfl (by decide +kernel) ⟨by decide, by decide⟩) hK hM hS rfl rfl hl.1 rfl (Nat.le_of_ble_eq_true rfl) dX7_leastTaken_6 ⟨by decide, by decide⟩ ?_
  refine tpl (x' := lN (enD t n)) (by rw [enF_top ht1 ht9 hn]; rfl) ?_
  refine lv_lstore (lv' := [(6, .long (lN (enD t n))), (0, .ref tg), (1, .int (nI t)), (2, .long (lN n)), (4, .long (lN b))]) hx hb dX7_leastTaken_9 hl (by decide) rfl (fun ls hl => ?_)
  refine lv_lload hx hb dX7_leastTaken_11 (lv_at hl 0 rfl) ?_
  refine lv_lload hx hb dX7_leastTaken_13 (lv_at hl 4 rfl) ?_
  refine bl_gt (tgt := 24) hx hb dX7_leastTaken_15 dX7_leastTaken_16 (by decide) (fun c_16 n_16 => ?_) (fun c_16 n_16 => ?_)
  · skip
    have h5 : ¬ enD t n ≤ b := fun z => n_16 ((ln_le (by omega) (by omega)).mpr z)
    refine lv_lconst (v := 0) hx hb dX7_leastTaken_24 (by decide) ?_
    exact hretl _ _ _ _ _ _ _ _ hh (⟨by rw [if_neg h5], hW1, hkp⟩) (by decide) (by decide) dX7_leastTaken_25 rfl
  · skip
    have h5 : enD t n ≤ b := (ln_le (by omega) (by omega)).mp c_16
    refine lv_lload hx hb dX7_leastTaken_19 (lv_at hl 0 rfl) ?_
    refine lv_goto (tgt := 25) hx hb dX7_leastTaken_21 (by decide) ?_
    exact hretl _ _ _ _ _ _ _ _ hh (⟨by rw [if_pos h5], hW1, hkp⟩) (by decide) (by decide) dX7_leastTaken_25 rfl
set_option maxHeartbeats 1000000 in
set_option maxRecDepth 100000 in
theorem k_X7_isWon (l : Launch) (D : va_G) (cA : Nat → ClassId) (M : mp) (tg sm t n b : Nat) (hT : M tg = some (.inr (7, [.ref sm]))) (hW0 : smW cA M sm) (ht1 : 1 ≤ t) (ht9 : t ≤ 9) (hn : n ≤ 1000000000000) (hb0 : b ≤ 1000000000000) : MC l D cA yX7_isWon wsX7_isWon 4 95 3 242 [.ref tg, .int (nI t), .long (lN n), .long (lN b)] M (fun r M' => r = some (.int (bI (tiF t n b))) ∧ smW cA M' sm ∧ kpL M M' [sm]) := by
  refine MC.of (cc := cX7_isWon) (maxL := 6) (ret := (some .boolean)) (by decide) rfl (Nat.le_of_ble_eq_true rfl) ?_
  intro p e s m args below meth c Q ls B hh hl hretv hreti hretz hretl hreta
  obtain ⟨hx, hb, hown, hts, hml, hK, hin⟩ := B
  have hM := hh.1
  have hM_0 := hh.1
  have hkp : kpL M M [sm] := kpL.rf M _
  have hown : s.vm.findClass RX7 = some m.cls := hown
  have hl : lv_has ls 6 [(0, .ref tg), (1, .int (nI t)), (2, .long (lN n)), (4, .long (lN b))] := hl
  have hle := enD_le t n
  have key : (0 < (if enD t n ≤ b then lN (enD t n) else 0)) ↔ tiF t n b = true := by
    unfold tiF
    simp only [Bool.and_eq_true, decide_eq_true_eq]
    by_cases h5 : enD t n ≤ b
    · rw [if_pos h5, l_0, ln_lt (by decide) (by omega)]
      rcases Nat.eq_zero_or_pos n with g | g
      · rw [g, enD_0 ht1 ht9]; simp
      · have := enD_pos ht1 ht9 g; omega
    · rw [if_neg h5]
      constructor
      · intro z; exact absurd z (by decide)
      · intro z; exact absurd z.2 h5
  refine lv_aload_n hx hb dX7_isWon_0 rfl (lv_at hl 0 rfl) ?_
  refine lv_iload_n hx hb dX7_isWon_1 rfl (lv_at hl 1 rfl) ?_
  refine lv_lload_n hx hb dX7_isWon_2 rfl (lv_at hl 2 rfl) ?_
  refine lv_lload hx hb dX7_isWon_3 (lv_at hl 3 rfl) ?_
  refine cmV (As := [.int (nI t), .long (lN n), .long (lN b)]) (rest := []) (k_X7_leastTaken l D cA _ tg sm t n b hT hW0 ht1 ht9 hn hb0) ⟨hx, hb, hml, hown, hts⟩ (cwV 3 hts gX7_isWon_X7_leastTaken rfl rfl rfl (by decide +kernel) ⟨by decide, by decide⟩) hK hh hT rfl rfl hl.1 rfl (Nat.le_of_ble_eq_true rfl) dX7_isWon_5 ⟨by decide, by decide⟩ (fun v9 M1 H1 locs1 hpost hh hz9 hk9 hn9 => ?_)
  obtain ⟨rfl, hW1, hkc⟩ := hpost
  have hkp := hkp.call hkc (by simp)
  have hM := hh.1
  refine W.widen (k := 3) (n := 242) (by decide) (by decide) ?_
  refine W.eq (g2 := F0 m 8 ls [.long ((if enD (t) (n) ≤ b then lN (enD (t) (n)) else 0))]) rfl ?_
  refine lv_lconst (v := 0) hx hb dX7_isWon_8 (by decide) ?_
  refine bl_le (tgt := 17) hx hb dX7_isWon_9 dX7_isWon_10 (by decide) (fun c_10 n_10 => ?_) (fun c_10 n_10 => ?_)
  · skip
    have h5 : tiF t n b = false := by cases h9 : tiF t n b; rfl; exact absurd (key.mpr h9) n_10
    refine lv_iconst (v := 0) hx hb dX7_isWon_17 (by decide) ?_
    exact hretz _ _ _ _ _ _ _ _ (tiF t n b) hh (by rw [h5]; rfl) (⟨rfl, hW1, hkp⟩) (by decide) (by decide) dX7_isWon_18 rfl
  · skip
    have h5 : tiF t n b = true := key.mp c_10
    refine lv_iconst (v := 1) hx hb dX7_isWon_13 (by decide) ?_
    refine lv_goto (tgt := 18) hx hb dX7_isWon_14 (by decide) ?_
    exact hretz _ _ _ _ _ _ _ _ (tiF t n b) hh (by rw [h5]; rfl) (⟨rfl, hW1, hkp⟩) (by decide) (by decide) dX7_isWon_18 rfl
set_option maxHeartbeats 1000000 in
set_option maxRecDepth 100000 in
theorem k_X8_shares (l : Launch) (D : va_G) (cA : Nat → ClassId) (M : mp) (g J P TG GO SG BG TM : Nat) (a b : Int64) (hg : M g = some (.inr (8, [.ref J, .ref P]))) (hJ : judW cA M J TG GO SG BG TM)  : PC l D cA yX8_shares wsX8_shares 3 77 [.ref g, .long a, .long b] M (some (.int (shV a b))) := by
  refine PC.it (cc := cX8_shares) (maxL := 5) (by decide) rfl (Nat.le_of_ble_eq_true rfl) ?_
  intro p e s m args below meth c H Q ls B hM hl hret
  obtain ⟨hx, hb, hown, hts, hml, hK, hin⟩ := B
  have hown : s.vm.findClass RX8 = some m.cls := hown
  have hl : lv_has ls 5 [(0, .ref g), (1, .long a), (3, .long b)] := hl
  have in_X8 : ∀ w ∈ wsX80, w ∈ wsX8_shares := by decide +kernel
  have fl_10 := hts (.fieldLink RX8 10 "GoldHeaps" "judge" "LGoldHeaps$Judge;") (by decide +kernel)
  have in_X2 : ∀ w ∈ wsX20, w ∈ wsX8_shares := by decide +kernel
  have fl_29 := (hK.2.1 (.fieldLinkNest "GoldHeaps" 29 "GoldHeaps$Judge" "sharesGame" "LGoldHeaps$SharesGame;" "GoldHeaps") (by decide +kernel)).use (A := args) rfl
  have hJ0 := hJ
  obtain ⟨hj, hsg, hbg, hG0⟩ := hJ
  obtain ⟨s2, n2, f, hgo, hs2, hn2, hf⟩ := id hG0
  refine lv_lload_n hx hb dX8_shares_0 rfl (lv_at hl 1 rfl) ?_
  refine cpS (As := [.long a]) (rest := []) (k_X8_isHeap l D cA _ a) ⟨hx, hb, hml, hown, hts⟩ (va_cwS 1 hts gX8_shares_X8_isHeap rfl rfl rfl (by decide +kernel) ⟨by decide, by decide⟩) hK hM rfl hl.1 rfl (Nat.le_of_ble_eq_true rfl) dX8_shares_1 ⟨by decide, by decide⟩ ?_
  refine bz_eq (tgt := 14) hx hb dX8_shares_4 (by decide) (fun c_4 n_4 => ?_) (fun c_4 n_4 => ?_)
  · skip
    have h1 := bI_eq0 c_4
    refine lv_bipush (v := (-2)) hx hb dX8_shares_14 (by decide) ?_
    exact hret _ _ _ dX8_shares_16 (by simp [shV, h1])
  · skip
    have h1 := bI_ne0 c_4
    refine lv_lload_n hx hb dX8_shares_7 rfl (lv_at hl 2 rfl) ?_
    refine cpS (As := [.long b]) (rest := []) (k_X8_isHeap l D cA _ b) ⟨hx, hb, hml, hown, hts⟩ (va_cwS 1 hts gX8_shares_X8_isHeap rfl rfl rfl (by decide +kernel) ⟨by decide, by decide⟩) hK hM rfl hl.1 rfl (Nat.le_of_ble_eq_true rfl) dX8_shares_8 ⟨by decide, by decide⟩ ?_
    refine bz_ne (tgt := 17) hx hb dX8_shares_11 (by decide) (fun c_11 n_11 => ?_) (fun c_11 n_11 => ?_)
    · skip
      have h2 := bI_ne0 c_11
      obtain ⟨ea, la⟩ := hp_heap h1
      obtain ⟨eb, lb⟩ := hp_heap h2
      refine lv_aload_n hx hb dX8_shares_17 rfl (lv_at hl 0 rfl) ?_
      refine m_get (ci := 8) (C := RX8) (T := TX8) (N := 2) (v := .ref J) hx hb hts in_X8 hown hK hM hg rfl 0 (by decide) fl_10 (fun _ h => h) rfl dX8_shares_18 ?_
      refine m_getN (ci := 2) (C := RX2) (T := TX2) (N := 5) (v := .ref SG) hx hb hts in_X2 hown hK hM hj rfl 2 (by decide) fl_29 (fun _ h => h) rfl dX8_shares_21 ?_
      refine lv_lload_n hx hb dX8_shares_24 rfl (lv_at hl 1 rfl) ?_
      refine lv_lload_n hx hb dX8_shares_25 rfl (lv_at hl 2 rfl) ?_
      refine cpV (As := [.long a, .long b]) (rest := []) (by have h9 := k_X5_isWon l D cA M SG GO (nL a) (nL b) hsg hG0 la lb; rw [← ea, ← eb] at h9; exact h9) ⟨hx, hb, hml, hown, hts⟩ (cwV 2 hts gX8_shares_X5_isWon rfl rfl rfl (by decide +kernel) ⟨by decide, by decide⟩) hK hM hsg rfl rfl hl.1 rfl (Nat.le_of_ble_eq_true rfl) dX8_shares_26 ⟨by decide, by decide⟩ ?_
      refine cpS (As := [.int (bI (shF (nL a) (nL b)))]) (rest := []) (k_X8_oneIf l D cA _ (shF (nL a) (nL b))) ⟨hx, hb, hml, hown, hts⟩ (va_cwS 1 hts gX8_shares_X8_oneIf rfl rfl rfl (by decide +kernel) ⟨by decide, by decide⟩) hK hM rfl hl.1 rfl (Nat.le_of_ble_eq_true rfl) dX8_shares_29 ⟨by decide, by decide⟩ ?_
      exact hret _ _ _ dX8_shares_32 (by unfold shV; rw [show hpB a = true from h1, show hpB b = true from h2, if_pos t2])
    · skip
      have h2 := bI_eq0 c_11
      refine lv_bipush (v := (-2)) hx hb dX8_shares_14 (by decide) ?_
      exact hret _ _ _ dX8_shares_16 (by simp [shV, h1, h2])
set_option maxHeartbeats 1000000 in
set_option maxRecDepth 100000 in
theorem k_X8_sharesMove (l : Launch) (D : va_G) (cA : Nat → ClassId) (M : mp) (g J P TG GO SG BG TM : Nat) (a b : Int64) (hg : M g = some (.inr (8, [.ref J, .ref P]))) (hJ : judW cA M J TG GO SG BG TM)  : PC l D cA yX8_sharesMove wsX8_sharesMove 4 109 [.ref g, .long a, .long b] M (some (.long (smV a b))) := by
  refine PC.lg (cc := cX8_sharesMove) (maxL := 5) (by decide) rfl (Nat.le_of_ble_eq_true rfl) ?_
  intro p e s m args below meth c H Q ls B hM hl hret
  obtain ⟨hx, hb, hown, hts, hml, hK, hin⟩ := B
  have hown : s.vm.findClass RX8 = some m.cls := hown
  have hl : lv_has ls 5 [(0, .ref g), (1, .long a), (3, .long b)] := hl
  have cst_43 := hts (.constantLong RX8 43 (-2)) (by decide +kernel)
  have in_X8 : ∀ w ∈ wsX80, w ∈ wsX8_sharesMove := by decide +kernel
  have fl_10 := hts (.fieldLink RX8 10 "GoldHeaps" "judge" "LGoldHeaps$Judge;") (by decide +kernel)
  have in_X2 : ∀ w ∈ wsX20, w ∈ wsX8_sharesMove := by decide +kernel
  have fl_29 := (hK.2.1 (.fieldLinkNest "GoldHeaps" 29 "GoldHeaps$Judge" "sharesGame" "LGoldHeaps$SharesGame;" "GoldHeaps") (by decide +kernel)).use (A := args) rfl
  have hJ0 := hJ
  obtain ⟨hj, hsg, hbg, hG0⟩ := hJ
  obtain ⟨s2, n2, f, hgo, hs2, hn2, hf⟩ := id hG0
  refine lv_lload_n hx hb dX8_sharesMove_0 rfl (lv_at hl 1 rfl) ?_
  refine cpS (As := [.long a]) (rest := []) (k_X8_isHeap l D cA _ a) ⟨hx, hb, hml, hown, hts⟩ (va_cwS 1 hts gX8_sharesMove_X8_isHeap rfl rfl rfl (by decide +kernel) ⟨by decide, by decide⟩) hK hM rfl hl.1 rfl (Nat.le_of_ble_eq_true rfl) dX8_sharesMove_1 ⟨by decide, by decide⟩ ?_
  refine bz_eq (tgt := 14) hx hb dX8_sharesMove_4 (by decide) (fun c_4 n_4 => ?_) (fun c_4 n_4 => ?_)
  · skip
    have h1 := bI_eq0 c_4
    refine lv_ldc2 hx hb hown cst_43 dX8_sharesMove_14 ?_
    exact hret _ _ _ dX8_sharesMove_17 (by simp [smV, h1])
  · skip
    have h1 := bI_ne0 c_4
    refine lv_lload_n hx hb dX8_sharesMove_7 rfl (lv_at hl 2 rfl) ?_
    refine cpS (As := [.long b]) (rest := []) (k_X8_isHeap l D cA _ b) ⟨hx, hb, hml, hown, hts⟩ (va_cwS 1 hts gX8_sharesMove_X8_isHeap rfl rfl rfl (by decide +kernel) ⟨by decide, by decide⟩) hK hM rfl hl.1 rfl (Nat.le_of_ble_eq_true rfl) dX8_sharesMove_8 ⟨by decide, by decide⟩ ?_
    refine bz_ne (tgt := 18) hx hb dX8_sharesMove_11 (by decide) (fun c_11 n_11 => ?_) (fun c_11 n_11 => ?_)
    · skip
      have h2 := bI_ne0 c_11
      obtain ⟨ea, la⟩ := hp_heap h1
      obtain ⟨eb, lb⟩ := hp_heap h2
      refine lv_aload_n hx hb dX8_sharesMove_18 rfl (lv_at hl 0 rfl) ?_
      refine m_get (ci := 8) (C := RX8) (T := TX8) (N := 2) (v := .ref J) hx hb hts in_X8 hown hK hM hg rfl 0 (by decide) fl_10 (fun _ h => h) rfl dX8_sharesMove_19 ?_
      refine m_getN (ci := 2) (C := RX2) (T := TX2) (N := 5) (v := .ref SG) hx hb hts in_X2 hown hK hM hj rfl 2 (by decide) fl_29 (fun _ h => h) rfl dX8_sharesMove_22 ?_
      refine lv_lload_n hx hb dX8_sharesMove_25 rfl (lv_at hl 1 rfl) ?_
      refine lv_lload_n hx hb dX8_sharesMove_26 rfl (lv_at hl 2 rfl) ?_
      refine cpV (As := [.long a, .long b]) (rest := []) (by have h9 := k_X5_leastTimes l D cA M SG GO (nL a) (nL b) hsg hG0 la lb; rw [← ea, ← eb] at h9; exact h9) ⟨hx, hb, hml, hown, hts⟩ (cwV 2 hts gX8_sharesMove_X5_leastTimes rfl rfl rfl (by decide +kernel) ⟨by decide, by decide⟩) hK hM hsg rfl rfl hl.1 rfl (Nat.le_of_ble_eq_true rfl) dX8_sharesMove_27 ⟨by decide, by decide⟩ ?_
      exact hret _ _ _ dX8_sharesMove_30 (by unfold smV; rw [show hpB a = true from h1, show hpB b = true from h2, if_pos t2])
    · skip
      have h2 := bI_eq0 c_11
      refine lv_ldc2 hx hb hown cst_43 dX8_sharesMove_14 ?_
      exact hret _ _ _ dX8_sharesMove_17 (by simp [smV, h1, h2])
set_option maxHeartbeats 1000000 in
set_option maxRecDepth 100000 in
theorem k_X8_both (l : Launch) (D : va_G) (cA : Nat → ClassId) (M : mp) (g J P TG GO SG BG TM : Nat) (a b : Int64) (hg : M g = some (.inr (8, [.ref J, .ref P]))) (hJ : judW cA M J TG GO SG BG TM)  : PC l D cA yX8_both wsX8_both 4 97 [.ref g, .long a, .long b] M (some (.int (boV a b))) := by
  refine PC.it (cc := cX8_both) (maxL := 5) (by decide) rfl (Nat.le_of_ble_eq_true rfl) ?_
  intro p e s m args below meth c H Q ls B hM hl hret
  obtain ⟨hx, hb, hown, hts, hml, hK, hin⟩ := B
  have hown : s.vm.findClass RX8 = some m.cls := hown
  have hl : lv_has ls 5 [(0, .ref g), (1, .long a), (3, .long b)] := hl
  have in_X8 : ∀ w ∈ wsX80, w ∈ wsX8_both := by decide +kernel
  have fl_10 := hts (.fieldLink RX8 10 "GoldHeaps" "judge" "LGoldHeaps$Judge;") (by decide +kernel)
  have in_X2 : ∀ w ∈ wsX20, w ∈ wsX8_both := by decide +kernel
  have fl_49 := (hK.2.1 (.fieldLinkNest "GoldHeaps" 49 "GoldHeaps$Judge" "bothGame" "LGoldHeaps$BothGame;" "GoldHeaps") (by decide +kernel)).use (A := args) rfl
  have hJ0 := hJ
  obtain ⟨hj, hsg, hbg, hG0⟩ := hJ
  obtain ⟨s2, n2, f, hgo, hs2, hn2, hf⟩ := id hG0
  refine lv_lload_n hx hb dX8_both_0 rfl (lv_at hl 1 rfl) ?_
  refine cpS (As := [.long a]) (rest := []) (k_X8_isHeap l D cA _ a) ⟨hx, hb, hml, hown, hts⟩ (va_cwS 1 hts gX8_both_X8_isHeap rfl rfl rfl (by decide +kernel) ⟨by decide, by decide⟩) hK hM rfl hl.1 rfl (Nat.le_of_ble_eq_true rfl) dX8_both_1 ⟨by decide, by decide⟩ ?_
  refine bz_eq (tgt := 14) hx hb dX8_both_4 (by decide) (fun c_4 n_4 => ?_) (fun c_4 n_4 => ?_)
  · skip
    have h1 := bI_eq0 c_4
    refine lv_bipush (v := (-2)) hx hb dX8_both_14 (by decide) ?_
    exact hret _ _ _ dX8_both_16 (by simp [boV, h1])
  · skip
    have h1 := bI_ne0 c_4
    refine lv_lload_n hx hb dX8_both_7 rfl (lv_at hl 2 rfl) ?_
    refine cpS (As := [.long b]) (rest := []) (k_X8_isHeap l D cA _ b) ⟨hx, hb, hml, hown, hts⟩ (va_cwS 1 hts gX8_both_X8_isHeap rfl rfl rfl (by decide +kernel) ⟨by decide, by decide⟩) hK hM rfl hl.1 rfl (Nat.le_of_ble_eq_true rfl) dX8_both_8 ⟨by decide, by decide⟩ ?_
    refine bz_ne (tgt := 17) hx hb dX8_both_11 (by decide) (fun c_11 n_11 => ?_) (fun c_11 n_11 => ?_)
    · skip
      have h2 := bI_ne0 c_11
      obtain ⟨ea, la⟩ := hp_heap h1
      obtain ⟨eb, lb⟩ := hp_heap h2
      refine lv_aload_n hx hb dX8_both_17 rfl (lv_at hl 0 rfl) ?_
      refine m_get (ci := 8) (C := RX8) (T := TX8) (N := 2) (v := .ref J) hx hb hts in_X8 hown hK hM hg rfl 0 (by decide) fl_10 (fun _ h => h) rfl dX8_both_18 ?_
      refine m_getN (ci := 2) (C := RX2) (T := TX2) (N := 5) (v := .ref BG) hx hb hts in_X2 hown hK hM hj rfl 3 (by decide) fl_49 (fun _ h => h) rfl dX8_both_21 ?_
      refine lv_lload_n hx hb dX8_both_24 rfl (lv_at hl 1 rfl) ?_
      refine lv_lload_n hx hb dX8_both_25 rfl (lv_at hl 2 rfl) ?_
      refine cpV (As := [.long a, .long b]) (rest := []) (by have h9 := k_X0_isWon l D cA M BG GO (nL a) (nL b) hbg hG0 la lb; rw [← ea, ← eb] at h9; exact h9) ⟨hx, hb, hml, hown, hts⟩ (cwV 2 hts gX8_both_X0_isWon rfl rfl rfl (by decide +kernel) ⟨by decide, by decide⟩) hK hM hbg rfl rfl hl.1 rfl (Nat.le_of_ble_eq_true rfl) dX8_both_26 ⟨by decide, by decide⟩ ?_
      refine cpS (As := [.int (bI (bothF (nL a) (nL b)))]) (rest := []) (k_X8_oneIf l D cA _ (bothF (nL a) (nL b))) ⟨hx, hb, hml, hown, hts⟩ (va_cwS 1 hts gX8_both_X8_oneIf rfl rfl rfl (by decide +kernel) ⟨by decide, by decide⟩) hK hM rfl hl.1 rfl (Nat.le_of_ble_eq_true rfl) dX8_both_29 ⟨by decide, by decide⟩ ?_
      exact hret _ _ _ dX8_both_32 (by unfold boV; rw [show hpB a = true from h1, show hpB b = true from h2, if_pos t2])
    · skip
      have h2 := bI_eq0 c_11
      refine lv_bipush (v := (-2)) hx hb dX8_both_14 (by decide) ?_
      exact hret _ _ _ dX8_both_16 (by simp [boV, h1, h2])
set_option maxHeartbeats 1000000 in
set_option maxRecDepth 100000 in
theorem k_X8_bothMove (l : Launch) (D : va_G) (cA : Nat → ClassId) (M : mp) (g J P TG GO SG BG TM : Nat) (a b : Int64) (w : Int32) (hg : M g = some (.inr (8, [.ref J, .ref P]))) (hJ : judW cA M J TG GO SG BG TM)  : PC l D cA yX8_bothMove wsX8_bothMove 6 140 [.ref g, .long a, .long b, .int w] M (some (.long (bmV a b w))) := by
  refine PC.lg (cc := cX8_bothMove) (maxL := 7) (by decide) rfl (Nat.le_of_ble_eq_true rfl) ?_
  intro p e s m args below meth c H Q ls B hM hl hret
  obtain ⟨hx, hb, hown, hts, hml, hK, hin⟩ := B
  have hown : s.vm.findClass RX8 = some m.cls := hown
  have hl : lv_has ls 7 [(0, .ref g), (1, .long a), (3, .long b), (5, .int w)] := hl
  have cst_43 := hts (.constantLong RX8 43 (-2)) (by decide +kernel)
  have in_X8 : ∀ w ∈ wsX80, w ∈ wsX8_bothMove := by decide +kernel
  have fl_10 := hts (.fieldLink RX8 10 "GoldHeaps" "judge" "LGoldHeaps$Judge;") (by decide +kernel)
  have in_X2 : ∀ w ∈ wsX20, w ∈ wsX8_bothMove := by decide +kernel
  have fl_49 := (hK.2.1 (.fieldLinkNest "GoldHeaps" 49 "GoldHeaps$Judge" "bothGame" "LGoldHeaps$BothGame;" "GoldHeaps") (by decide +kernel)).use (A := args) rfl
  have hJ0 := hJ
  obtain ⟨hj, hsg, hbg, hG0⟩ := hJ
  obtain ⟨s2, n2, f, hgo, hs2, hn2, hf⟩ := id hG0
  refine lv_lload_n hx hb dX8_bothMove_0 rfl (lv_at hl 1 rfl) ?_
  refine cpS (As := [.long a]) (rest := []) (k_X8_isHeap l D cA _ a) ⟨hx, hb, hml, hown, hts⟩ (va_cwS 1 hts gX8_bothMove_X8_isHeap rfl rfl rfl (by decide +kernel) ⟨by decide, by decide⟩) hK hM rfl hl.1 rfl (Nat.le_of_ble_eq_true rfl) dX8_bothMove_1 ⟨by decide, by decide⟩ ?_
  refine bz_eq (tgt := 25) hx hb dX8_bothMove_4 (by decide) (fun c_4 n_4 => ?_) (fun c_4 n_4 => ?_)
  · skip
    have h1 := bI_eq0 c_4
    refine lv_ldc2 hx hb hown cst_43 dX8_bothMove_25 ?_
    exact hret _ _ _ dX8_bothMove_28 (by simp [bmV, h1])
  · skip
    have h1 := bI_ne0 c_4
    refine lv_lload_n hx hb dX8_bothMove_7 rfl (lv_at hl 2 rfl) ?_
    refine cpS (As := [.long b]) (rest := []) (k_X8_isHeap l D cA _ b) ⟨hx, hb, hml, hown, hts⟩ (va_cwS 1 hts gX8_bothMove_X8_isHeap rfl rfl rfl (by decide +kernel) ⟨by decide, by decide⟩) hK hM rfl hl.1 rfl (Nat.le_of_ble_eq_true rfl) dX8_bothMove_8 ⟨by decide, by decide⟩ ?_
    refine bz_eq (tgt := 25) hx hb dX8_bothMove_11 (by decide) (fun c_11 n_11 => ?_) (fun c_11 n_11 => ?_)
    · skip
      have h2 := bI_eq0 c_11
      refine lv_ldc2 hx hb hown cst_43 dX8_bothMove_25 ?_
      exact hret _ _ _ dX8_bothMove_28 (by simp [bmV, h1, h2])
    · skip
      have h2 := bI_ne0 c_11
      refine lv_iload hx hb dX8_bothMove_14 (lv_at hl 3 rfl) ?_
      refine lv_i2l hx hb dX8_bothMove_16 rfl ?_
      refine lv_lconst (v := 0) hx hb dX8_bothMove_17 (by decide) ?_
      refine lv_lconst (v := 1) hx hb dX8_bothMove_18 (by decide) ?_
      refine cpS (As := [.long ((w).toInt64), .long 0, .long 1]) (rest := []) (k_X8_isWithin l D cA _ (w.toInt64) 0 1) ⟨hx, hb, hml, hown, hts⟩ (va_cwS 3 hts gX8_bothMove_X8_isWithin rfl rfl rfl (by decide +kernel) ⟨by decide, by decide⟩) hK hM rfl hl.1 rfl (Nat.le_of_ble_eq_true rfl) dX8_bothMove_19 ⟨by decide, by decide⟩ ?_
      refine bz_ne (tgt := 29) hx hb dX8_bothMove_22 (by decide) (fun c_22 n_22 => ?_) (fun c_22 n_22 => ?_)
      · skip
        have h3 := bI_ne0 c_22
        obtain ⟨ea, la⟩ := hp_heap h1
        obtain ⟨eb, lb⟩ := hp_heap h2
        refine lv_aload_n hx hb dX8_bothMove_29 rfl (lv_at hl 0 rfl) ?_
        refine m_get (ci := 8) (C := RX8) (T := TX8) (N := 2) (v := .ref J) hx hb hts in_X8 hown hK hM hg rfl 0 (by decide) fl_10 (fun _ h => h) rfl dX8_bothMove_30 ?_
        refine m_getN (ci := 2) (C := RX2) (T := TX2) (N := 5) (v := .ref BG) hx hb hts in_X2 hown hK hM hj rfl 3 (by decide) fl_49 (fun _ h => h) rfl dX8_bothMove_33 ?_
        refine lv_lload_n hx hb dX8_bothMove_36 rfl (lv_at hl 1 rfl) ?_
        refine lv_lload_n hx hb dX8_bothMove_37 rfl (lv_at hl 2 rfl) ?_
        refine cpV (As := [.long a, .long b]) (rest := []) (by have h9 := k_X0_whichWins l D cA M BG GO (nL a) (nL b) hbg hG0 la lb; rw [← ea, ← eb] at h9; exact h9) ⟨hx, hb, hml, hown, hts⟩ (cwV 2 hts gX8_bothMove_X0_whichWins rfl rfl rfl (by decide +kernel) ⟨by decide, by decide⟩) hK hM hbg rfl rfl hl.1 rfl (Nat.le_of_ble_eq_true rfl) dX8_bothMove_38 ⟨by decide, by decide⟩ ?_
        refine lv_istore (lv' := [(6, .int (whichF (nL a) (nL b))), (0, .ref g), (1, .long a), (3, .long b), (5, .int w)]) hx hb dX8_bothMove_41 hl (by decide) rfl (fun ls hl => ?_)
        refine lv_iload hx hb dX8_bothMove_43 (lv_at hl 4 rfl) ?_
        refine bz_ne (tgt := 54) hx hb dX8_bothMove_45 (by decide) (fun c_45 n_45 => ?_) (fun c_45 n_45 => ?_)
        · skip
          refine lv_aload_n hx hb dX8_bothMove_54 rfl (lv_at hl 1 rfl) ?_
          refine m_get (ci := 8) (C := RX8) (T := TX8) (N := 2) (v := .ref J) hx hb hts in_X8 hown hK hM hg rfl 0 (by decide) fl_10 (fun _ h => h) rfl dX8_bothMove_55 ?_
          refine m_getN (ci := 2) (C := RX2) (T := TX2) (N := 5) (v := .ref BG) hx hb hts in_X2 hown hK hM hj rfl 3 (by decide) fl_49 (fun _ h => h) rfl dX8_bothMove_58 ?_
          refine lv_lload_n hx hb dX8_bothMove_61 rfl (lv_at hl 2 rfl) ?_
          refine lv_lload_n hx hb dX8_bothMove_62 rfl (lv_at hl 3 rfl) ?_
          refine lv_iload hx hb dX8_bothMove_63 (lv_at hl 0 rfl) ?_
          refine cpV (As := [.long a, .long b, .int (whichF (nL a) (nL b))]) (rest := []) (by have h9 := k_X0_howMany l D cA M BG GO (nL a) (nL b) hbg hG0 la lb; rw [← ea, ← eb] at h9; exact h9) ⟨hx, hb, hml, hown, hts⟩ (cwV 3 hts gX8_bothMove_X0_howMany rfl rfl rfl (by decide +kernel) ⟨by decide, by decide⟩) hK hM hbg rfl rfl hl.1 rfl (Nat.le_of_ble_eq_true rfl) dX8_bothMove_65 ⟨by decide, by decide⟩ ?_
          exact hret _ _ _ dX8_bothMove_68 (by unfold bmV; rw [show hpB a = true from h1, show hpB b = true from h2, h3, if_pos t3, if_neg c_45])
        · skip
          refine lv_iload hx hb dX8_bothMove_48 (lv_at hl 0 rfl) ?_
          refine lv_i2l hx hb dX8_bothMove_50 rfl ?_
          refine lv_goto (tgt := 68) hx hb dX8_bothMove_51 (by decide) ?_
          exact hret _ _ _ dX8_bothMove_68 (by unfold bmV; rw [show hpB a = true from h1, show hpB b = true from h2, h3, if_pos t3, if_pos c_45])
      · skip
        have h3 := bI_eq0 c_22
        refine lv_ldc2 hx hb hown cst_43 dX8_bothMove_25 ?_
        exact hret _ _ _ dX8_bothMove_28 (by simp [bmV, h1, h2, h3])
set_option maxHeartbeats 1000000 in
set_option maxRecDepth 100000 in
theorem k_X8_lost (l : Launch) (D : va_G) (cA : Nat → ClassId) (M : mp) (g J P TG GO SG BG TM : Nat) (k : Int64) (w : Int32) (hg : M g = some (.inr (8, [.ref J, .ref P]))) (hJ : judW cA M J TG GO SG BG TM)  : PC l D cA yX8_lost wsX8_lost 2 49 [.ref g, .long k, .int w] M (some (.long (loV k w))) := by
  refine PC.lg (cc := cX8_lost) (maxL := 6) (by decide) rfl (Nat.le_of_ble_eq_true rfl) ?_
  intro p e s m args below meth c H Q ls B hM hl hret
  obtain ⟨hx, hb, hown, hts, hml, hK, hin⟩ := B
  have hown : s.vm.findClass RX8 = some m.cls := hown
  have hl : lv_has ls 6 [(0, .ref g), (1, .long k), (3, .int w)] := hl
  have cst_68 := hts (.constantLong RX8 68 (300000000000)) (by decide +kernel)
  have cst_43 := hts (.constantLong RX8 43 (-2)) (by decide +kernel)
  have in_X8 : ∀ w ∈ wsX80, w ∈ wsX8_lost := by decide +kernel
  have fl_10 := hts (.fieldLink RX8 10 "GoldHeaps" "judge" "LGoldHeaps$Judge;") (by decide +kernel)
  have in_X2 : ∀ w ∈ wsX20, w ∈ wsX8_lost := by decide +kernel
  have fl_70 := (hK.2.1 (.fieldLinkNest "GoldHeaps" 70 "GoldHeaps$Judge" "golden" "LGoldHeaps$Golden;" "GoldHeaps") (by decide +kernel)).use (A := args) rfl
  have hJ0 := hJ
  obtain ⟨hj, hsg, hbg, hG0⟩ := hJ
  obtain ⟨s2, n2, f, hgo, hs2, hn2, hf⟩ := id hG0
  refine lv_lload_n hx hb dX8_lost_0 rfl (lv_at hl 1 rfl) ?_
  refine lv_lconst (v := 0) hx hb dX8_lost_1 (by decide) ?_
  refine lv_ldc2 hx hb hown cst_68 dX8_lost_2 ?_
  refine cpS (As := [.long k, .long 0, .long 300000000000]) (rest := []) (k_X8_isWithin l D cA _ (k) 0 300000000000) ⟨hx, hb, hml, hown, hts⟩ (va_cwS 3 hts gX8_lost_X8_isWithin rfl rfl rfl (by decide +kernel) ⟨by decide, by decide⟩) hK hM rfl hl.1 rfl (Nat.le_of_ble_eq_true rfl) dX8_lost_5 ⟨by decide, by decide⟩ ?_
  refine bz_eq (tgt := 21) hx hb dX8_lost_8 (by decide) (fun c_8 n_8 => ?_) (fun c_8 n_8 => ?_)
  · skip
    have h1 := bI_eq0 c_8
    refine lv_ldc2 hx hb hown cst_43 dX8_lost_21 ?_
    exact hret _ _ _ dX8_lost_24 (by simp [loV, h1])
  · skip
    have h1 := bI_ne0 c_8
    refine lv_iload_n hx hb dX8_lost_11 rfl (lv_at hl 2 rfl) ?_
    refine lv_i2l hx hb dX8_lost_12 rfl ?_
    refine lv_lconst (v := 0) hx hb dX8_lost_13 (by decide) ?_
    refine lv_lconst (v := 1) hx hb dX8_lost_14 (by decide) ?_
    refine cpS (As := [.long ((w).toInt64), .long 0, .long 1]) (rest := []) (k_X8_isWithin l D cA _ (w.toInt64) 0 1) ⟨hx, hb, hml, hown, hts⟩ (va_cwS 3 hts gX8_lost_X8_isWithin rfl rfl rfl (by decide +kernel) ⟨by decide, by decide⟩) hK hM rfl hl.1 rfl (Nat.le_of_ble_eq_true rfl) dX8_lost_15 ⟨by decide, by decide⟩ ?_
    refine bz_ne (tgt := 25) hx hb dX8_lost_18 (by decide) (fun c_18 n_18 => ?_) (fun c_18 n_18 => ?_)
    · skip
      have h2 := bI_ne0 c_18
      obtain ⟨ek, lk⟩ := hp_of (K := 300000000000) (by decide) (by decide) h1
      refine lv_aload_n hx hb dX8_lost_25 rfl (lv_at hl 0 rfl) ?_
      refine m_get (ci := 8) (C := RX8) (T := TX8) (N := 2) (v := .ref J) hx hb hts in_X8 hown hK hM hg rfl 0 (by decide) fl_10 (fun _ h => h) rfl dX8_lost_26 ?_
      refine m_getN (ci := 2) (C := RX2) (T := TX2) (N := 5) (v := .ref GO) hx hb hts in_X2 hown hK hM hj rfl 1 (by decide) fl_70 (fun _ h => h) rfl dX8_lost_29 ?_
      refine lv_lload_n hx hb dX8_lost_32 rfl (lv_at hl 1 rfl) ?_
      refine cpV (As := [.long k]) (rest := []) (by have h9 := k_X1_cut l D cA M GO (nL k) hG0 (by omega); rw [← ek] at h9; exact h9) ⟨hx, hb, hml, hown, hts⟩ (cwV 1 hts gX8_lost_X1_cut rfl rfl rfl (by decide +kernel) ⟨by decide, by decide⟩) hK hM hgo rfl rfl hl.1 rfl (Nat.le_of_ble_eq_true rfl) dX8_lost_33 ⟨by decide, by decide⟩ ?_
      refine lv_lstore (lv' := [(4, .long (lN (cutF (nL k)))), (0, .ref g), (1, .long k), (3, .int w)]) hx hb dX8_lost_36 hl (by decide) rfl (fun ls hl => ?_)
      refine lv_iload_n hx hb dX8_lost_38 rfl (lv_at hl 3 rfl) ?_
      refine bz_ne (tgt := 47) hx hb dX8_lost_39 (by decide) (fun c_39 n_39 => ?_) (fun c_39 n_39 => ?_)
      · skip
        refine lv_lload hx hb dX8_lost_47 (lv_at hl 0 rfl) ?_
        refine lv_lload_n hx hb dX8_lost_49 rfl (lv_at hl 2 rfl) ?_
        refine lv_ladd hx hb dX8_lost_50 ?_
        refine tpl (x' := lN (cutF (nL k) + nL k)) ((congrArg (lN (cutF (nL k)) + ·) ek).trans (lN_add _ _)) ?_
        exact hret _ _ _ dX8_lost_51 (by unfold loV; rw [h1, h2]; simp [c_39])
      · skip
        refine lv_lload hx hb dX8_lost_42 (lv_at hl 0 rfl) ?_
        refine lv_goto (tgt := 51) hx hb dX8_lost_44 (by decide) ?_
        exact hret _ _ _ dX8_lost_51 (by unfold loV; rw [h1, h2]; simp [c_39])
    · skip
      have h2 := bI_eq0 c_18
      refine lv_ldc2 hx hb hown cst_43 dX8_lost_21 ?_
      exact hret _ _ _ dX8_lost_24 (by simp [loV, h1, h2])
set_option maxHeartbeats 1000000 in
set_option maxRecDepth 100000 in
theorem k_X8_lostOf (l : Launch) (D : va_G) (cA : Nat → ClassId) (M : mp) (g J P TG GO SG BG TM : Nat) (a : Int64) (w : Int32) (hg : M g = some (.inr (8, [.ref J, .ref P]))) (hJ : judW cA M J TG GO SG BG TM)  : PC l D cA yX8_lostOf wsX8_lostOf 5 115 [.ref g, .long a, .int w] M (some (.long (ofV a w))) := by
  refine PC.lg (cc := cX8_lostOf) (maxL := 4) (by decide) rfl (Nat.le_of_ble_eq_true rfl) ?_
  intro p e s m args below meth c H Q ls B hM hl hret
  obtain ⟨hx, hb, hown, hts, hml, hK, hin⟩ := B
  have hown : s.vm.findClass RX8 = some m.cls := hown
  have hl : lv_has ls 4 [(0, .ref g), (1, .long a), (3, .int w)] := hl
  have cst_43 := hts (.constantLong RX8 43 (-2)) (by decide +kernel)
  have in_X8 : ∀ w ∈ wsX80, w ∈ wsX8_lostOf := by decide +kernel
  have fl_10 := hts (.fieldLink RX8 10 "GoldHeaps" "judge" "LGoldHeaps$Judge;") (by decide +kernel)
  have in_X2 : ∀ w ∈ wsX20, w ∈ wsX8_lostOf := by decide +kernel
  have fl_70 := (hK.2.1 (.fieldLinkNest "GoldHeaps" 70 "GoldHeaps$Judge" "golden" "LGoldHeaps$Golden;" "GoldHeaps") (by decide +kernel)).use (A := args) rfl
  have hJ0 := hJ
  obtain ⟨hj, hsg, hbg, hG0⟩ := hJ
  obtain ⟨s2, n2, f, hgo, hs2, hn2, hf⟩ := id hG0
  refine lv_lload_n hx hb dX8_lostOf_0 rfl (lv_at hl 1 rfl) ?_
  refine cpS (As := [.long a]) (rest := []) (k_X8_isHeap l D cA _ a) ⟨hx, hb, hml, hown, hts⟩ (va_cwS 1 hts gX8_lostOf_X8_isHeap rfl rfl rfl (by decide +kernel) ⟨by decide, by decide⟩) hK hM rfl hl.1 rfl (Nat.le_of_ble_eq_true rfl) dX8_lostOf_1 ⟨by decide, by decide⟩ ?_
  refine bz_eq (tgt := 17) hx hb dX8_lostOf_4 (by decide) (fun c_4 n_4 => ?_) (fun c_4 n_4 => ?_)
  · skip
    have h1 := bI_eq0 c_4
    refine lv_ldc2 hx hb hown cst_43 dX8_lostOf_17 ?_
    exact hret _ _ _ dX8_lostOf_20 (by simp [ofV, h1])
  · skip
    have h1 := bI_ne0 c_4
    refine lv_iload_n hx hb dX8_lostOf_7 rfl (lv_at hl 2 rfl) ?_
    refine lv_i2l hx hb dX8_lostOf_8 rfl ?_
    refine lv_lconst (v := 0) hx hb dX8_lostOf_9 (by decide) ?_
    refine lv_lconst (v := 1) hx hb dX8_lostOf_10 (by decide) ?_
    refine cpS (As := [.long ((w).toInt64), .long 0, .long 1]) (rest := []) (k_X8_isWithin l D cA _ (w.toInt64) 0 1) ⟨hx, hb, hml, hown, hts⟩ (va_cwS 3 hts gX8_lostOf_X8_isWithin rfl rfl rfl (by decide +kernel) ⟨by decide, by decide⟩) hK hM rfl hl.1 rfl (Nat.le_of_ble_eq_true rfl) dX8_lostOf_11 ⟨by decide, by decide⟩ ?_
    refine bz_ne (tgt := 21) hx hb dX8_lostOf_14 (by decide) (fun c_14 n_14 => ?_) (fun c_14 n_14 => ?_)
    · skip
      have h2 := bI_ne0 c_14
      obtain ⟨ea, la⟩ := hp_heap h1
      refine lv_iload_n hx hb dX8_lostOf_21 rfl (lv_at hl 2 rfl) ?_
      refine bz_ne (tgt := 39) hx hb dX8_lostOf_22 (by decide) (fun c_22 n_22 => ?_) (fun c_22 n_22 => ?_)
      · skip
        refine lv_aload_n hx hb dX8_lostOf_39 rfl (lv_at hl 0 rfl) ?_
        refine m_get (ci := 8) (C := RX8) (T := TX8) (N := 2) (v := .ref J) hx hb hts in_X8 hown hK hM hg rfl 0 (by decide) fl_10 (fun _ h => h) rfl dX8_lostOf_40 ?_
        refine m_getN (ci := 2) (C := RX2) (T := TX2) (N := 5) (v := .ref GO) hx hb hts in_X2 hown hK hM hj rfl 1 (by decide) fl_70 (fun _ h => h) rfl dX8_lostOf_43 ?_
        refine lv_lload_n hx hb dX8_lostOf_46 rfl (lv_at hl 1 rfl) ?_
        refine cpV (As := [.long a]) (rest := []) (by have h9 := k_X1_isLesser l D cA M GO (nL a) hG0 la; rw [← ea] at h9; exact h9) ⟨hx, hb, hml, hown, hts⟩ (cwV 1 hts gX8_lostOf_X1_isLesser rfl rfl rfl (by decide +kernel) ⟨by decide, by decide⟩) hK hM hgo rfl rfl hl.1 rfl (Nat.le_of_ble_eq_true rfl) dX8_lostOf_47 ⟨by decide, by decide⟩ ?_
        refine cpS (As := [.int (bI (isLF (nL a)))]) (rest := []) (k_X8_oneIf l D cA _ (isLF (nL a))) ⟨hx, hb, hml, hown, hts⟩ (va_cwS 1 hts gX8_lostOf_X8_oneIf rfl rfl rfl (by decide +kernel) ⟨by decide, by decide⟩) hK hM rfl hl.1 rfl (Nat.le_of_ble_eq_true rfl) dX8_lostOf_50 ⟨by decide, by decide⟩ ?_
        refine lv_i2l hx hb dX8_lostOf_53 rfl ?_
        exact hret _ _ _ dX8_lostOf_54 (by unfold ofV; rw [show hpB a = true from h1, h2, if_pos t2, if_neg c_22])
      · skip
        refine lv_aload_n hx hb dX8_lostOf_25 rfl (lv_at hl 0 rfl) ?_
        refine m_get (ci := 8) (C := RX8) (T := TX8) (N := 2) (v := .ref J) hx hb hts in_X8 hown hK hM hg rfl 0 (by decide) fl_10 (fun _ h => h) rfl dX8_lostOf_26 ?_
        refine m_getN (ci := 2) (C := RX2) (T := TX2) (N := 5) (v := .ref GO) hx hb hts in_X2 hown hK hM hj rfl 1 (by decide) fl_70 (fun _ h => h) rfl dX8_lostOf_29 ?_
        refine lv_lload_n hx hb dX8_lostOf_32 rfl (lv_at hl 1 rfl) ?_
        refine cpV (As := [.long a]) (rest := []) (by have h9 := k_X1_indexOf l D cA M GO (nL a) hG0 la; rw [← ea] at h9; exact h9) ⟨hx, hb, hml, hown, hts⟩ (cwV 1 hts gX8_lostOf_X1_indexOf rfl rfl rfl (by decide +kernel) ⟨by decide, by decide⟩) hK hM hgo rfl rfl hl.1 rfl (Nat.le_of_ble_eq_true rfl) dX8_lostOf_33 ⟨by decide, by decide⟩ ?_
        refine lv_goto (tgt := 54) hx hb dX8_lostOf_36 (by decide) ?_
        exact hret _ _ _ dX8_lostOf_54 (by unfold ofV; rw [show hpB a = true from h1, h2, if_pos t2, if_pos c_22])
    · skip
      have h2 := bI_eq0 c_14
      refine lv_ldc2 hx hb hown cst_43 dX8_lostOf_17 ?_
      exact hret _ _ _ dX8_lostOf_20 (by simp [ofV, h1, h2])
set_option maxHeartbeats 1000000 in
set_option maxRecDepth 100000 in
theorem k_X8_row (l : Launch) (D : va_G) (cA : Nat → ClassId) (M : mp) (g J P TG GO SG BG TM : Nat) (SM : Nat) (x i : Int32) (hg : M g = some (.inr (8, [.ref J, .ref P]))) (hJ : judW cA M J TG GO SG BG TM) (hT : M TG = some (.inr (7, [.ref SM]))) (hW0 : smW cA M SM)  : MC l D cA yX8_row wsX8_row 3 68 3 242 [.ref g, .int x, .int i] M (fun r M' => r = some (.long (roV x i)) ∧ smW cA M' SM ∧ kpL M M' [SM]) := by
  refine MC.of (cc := cX8_row) (maxL := 3) (ret := (some .long)) (by decide) rfl (Nat.le_of_ble_eq_true rfl) ?_
  intro p e s m args below meth c Q ls B hh hl hretv hreti hretz hretl hreta
  obtain ⟨hx, hb, hown, hts, hml, hK, hin⟩ := B
  have hM := hh.1
  have hM_0 := hh.1
  have hkp : kpL M M [SM] := kpL.rf M _
  have hown : s.vm.findClass RX8 = some m.cls := hown
  have hl : lv_has ls 3 [(0, .ref g), (1, .int x), (2, .int i)] := hl
  have cst_43 := hts (.constantLong RX8 43 (-2)) (by decide +kernel)
  have in_X8 : ∀ w ∈ wsX80, w ∈ wsX8_row := by decide +kernel
  have fl_10 := hts (.fieldLink RX8 10 "GoldHeaps" "judge" "LGoldHeaps$Judge;") (by decide +kernel)
  have in_X2 : ∀ w ∈ wsX20, w ∈ wsX8_row := by decide +kernel
  have fl_89 := (hK.2.1 (.fieldLinkNest "GoldHeaps" 89 "GoldHeaps$Judge" "timesGame" "LGoldHeaps$TimesGame;" "GoldHeaps") (by decide +kernel)).use (A := args) rfl
  have hJ0 := hJ
  obtain ⟨hj, hsg, hbg, hG0⟩ := hJ
  refine lv_iload_n hx hb dX8_row_0 rfl (lv_at hl 1 rfl) ?_
  refine lv_i2l hx hb dX8_row_1 rfl ?_
  refine cpS (As := [.long ((x).toInt64)]) (rest := []) (k_X8_isFactor l D cA _ x.toInt64) ⟨hx, hb, hml, hown, hts⟩ (va_cwS 1 hts gX8_row_X8_isFactor rfl rfl rfl (by decide +kernel) ⟨by decide, by decide⟩) hK hM rfl hl.1 rfl (Nat.le_of_ble_eq_true rfl) dX8_row_2 ⟨by decide, by decide⟩ ?_
  refine bz_eq (tgt := 12) hx hb dX8_row_5 (by decide) (fun c_5 n_5 => ?_) (fun c_5 n_5 => ?_)
  · skip
    have h1 := bI_eq0 c_5
    refine lv_ldc2 hx hb hown cst_43 dX8_row_12 ?_
    exact hretl _ _ _ _ _ _ _ _ hh (⟨by simp [roV, h1], hW0, hkp⟩) (by decide) (by decide) dX8_row_15 rfl
  · skip
    have h1 := bI_ne0 c_5
    refine lv_iload_n hx hb dX8_row_8 rfl (lv_at hl 2 rfl) ?_
    refine bz_ge (tgt := 16) hx hb dX8_row_9 (by decide) (fun c_9 n_9 => ?_) (fun c_9 n_9 => ?_)
    · skip
      obtain ⟨ex, x1, x9⟩ := by_of h1
      refine lv_aload_n hx hb dX8_row_16 rfl (lv_at hl 0 rfl) ?_
      refine m_get (ci := 8) (C := RX8) (T := TX8) (N := 2) (v := .ref J) hx hb hts in_X8 hown hK hM hg rfl 0 (by decide) fl_10 (fun _ h => h) rfl dX8_row_17 ?_
      refine m_getN (ci := 2) (C := RX2) (T := TX2) (N := 5) (v := .ref TG) hx hb hts in_X2 hown hK hM hj rfl 0 (by decide) fl_89 (fun _ h => h) rfl dX8_row_20 ?_
      refine lv_iload_n hx hb dX8_row_23 rfl (lv_at hl 1 rfl) ?_
      refine cmV (As := [.int x]) (rest := []) (by have h9 := k_X7_sumsBy l D cA _ TG SM (nB x) hT hW0 x1 x9; rw [← ex] at h9; exact h9) ⟨hx, hb, hml, hown, hts⟩ (cwV 1 hts gX8_row_X7_sumsBy rfl rfl rfl (by decide +kernel) ⟨by decide, by decide⟩) hK hh hT rfl rfl hl.1 rfl (Nat.le_of_ble_eq_true rfl) dX8_row_24 ⟨by decide, by decide⟩ (fun v9 M1 H1 locs1 hpost hh hz9 hk9 hn9 => ?_)
      obtain ⟨⟨sa, rfl, hsw⟩, hW1, hkc⟩ := hpost
      obtain ⟨n0, f, hS1, hN1, hf1⟩ := id hsw
      have hS : M1 sa = some (.inr (6, [.ref n0, .int (nI (rsz (nB x)))])) := hS1
      have hkp := hkp.call hkc (by simp)
      have hM := hh.1
      refine W.widen (k := 3) (n := 242) (by decide) (by decide) ?_
      refine W.eq (g2 := F0 m 27 ls [.ref sa]) rfl ?_
      refine lv_iload_n hx hb dX8_row_27 rfl (lv_at hl 2 rfl) ?_
      refine cpV (As := [.int i]) (rest := []) (k_X6_numberAt l D cA _ (nB x) sa i hsw x1 x9) ⟨hx, hb, hml, hown, hts⟩ (cwV 1 hts gX8_row_X6_numberAt rfl rfl rfl (by decide +kernel) ⟨by decide, by decide⟩) hK hM hS rfl rfl hl.1 rfl (Nat.le_of_ble_eq_true rfl) dX8_row_28 ⟨by decide, by decide⟩ ?_
      exact hretl _ _ _ _ _ _ _ _ hh (⟨by unfold roV; rw [show byB x = true from h1, decide_eq_true c_9, if_pos t2]; simp only [c_9, true_and], hW1, hkp⟩) (by decide) (by decide) dX8_row_31 rfl
    · skip
      refine lv_ldc2 hx hb hown cst_43 dX8_row_12 ?_
      exact hretl _ _ _ _ _ _ _ _ hh (⟨by simp [roV, h1, n_9], hW0, hkp⟩) (by decide) (by decide) dX8_row_15 rfl
set_option maxHeartbeats 1000000 in
set_option maxRecDepth 100000 in
theorem k_X8_digits (l : Launch) (D : va_G) (cA : Nat → ClassId) (M : mp) (g J P TG GO SG BG TM : Nat) (SM : Nat) (x : Int32) (n : Int64) (hg : M g = some (.inr (8, [.ref J, .ref P]))) (hJ : judW cA M J TG GO SG BG TM) (hT : M TG = some (.inr (7, [.ref SM]))) (hW0 : smW cA M SM)  : MC l D cA yX8_digits wsX8_digits 3 68 3 242 [.ref g, .int x, .long n] M (fun r M' => r = some (.int (diV x n)) ∧ smW cA M' SM ∧ kpL M M' [SM]) := by
  refine MC.of (cc := cX8_digits) (maxL := 4) (ret := (some .int)) (by decide) rfl (Nat.le_of_ble_eq_true rfl) ?_
  intro p e s m args below meth c Q ls B hh hl hretv hreti hretz hretl hreta
  obtain ⟨hx, hb, hown, hts, hml, hK, hin⟩ := B
  have hM := hh.1
  have hM_0 := hh.1
  have hkp : kpL M M [SM] := kpL.rf M _
  have hown : s.vm.findClass RX8 = some m.cls := hown
  have hl : lv_has ls 4 [(0, .ref g), (1, .int x), (2, .long n)] := hl
  have in_X8 : ∀ w ∈ wsX80, w ∈ wsX8_digits := by decide +kernel
  have fl_10 := hts (.fieldLink RX8 10 "GoldHeaps" "judge" "LGoldHeaps$Judge;") (by decide +kernel)
  have in_X2 : ∀ w ∈ wsX20, w ∈ wsX8_digits := by decide +kernel
  have fl_89 := (hK.2.1 (.fieldLinkNest "GoldHeaps" 89 "GoldHeaps$Judge" "timesGame" "LGoldHeaps$TimesGame;" "GoldHeaps") (by decide +kernel)).use (A := args) rfl
  have hJ0 := hJ
  obtain ⟨hj, hsg, hbg, hG0⟩ := hJ
  refine lv_iload_n hx hb dX8_digits_0 rfl (lv_at hl 1 rfl) ?_
  refine lv_i2l hx hb dX8_digits_1 rfl ?_
  refine cpS (As := [.long ((x).toInt64)]) (rest := []) (k_X8_isFactor l D cA _ x.toInt64) ⟨hx, hb, hml, hown, hts⟩ (va_cwS 1 hts gX8_digits_X8_isFactor rfl rfl rfl (by decide +kernel) ⟨by decide, by decide⟩) hK hM rfl hl.1 rfl (Nat.le_of_ble_eq_true rfl) dX8_digits_2 ⟨by decide, by decide⟩ ?_
  refine bz_eq (tgt := 15) hx hb dX8_digits_5 (by decide) (fun c_5 n_5 => ?_) (fun c_5 n_5 => ?_)
  · skip
    have h1 := bI_eq0 c_5
    refine lv_bipush (v := (-2)) hx hb dX8_digits_15 (by decide) ?_
    exact hreti _ _ _ _ _ _ _ _ hh (⟨by simp [diV, h1], hW0, hkp⟩) (by decide) (by decide) dX8_digits_17 rfl
  · skip
    have h1 := bI_ne0 c_5
    refine lv_lload_n hx hb dX8_digits_8 rfl (lv_at hl 2 rfl) ?_
    refine cpS (As := [.long n]) (rest := []) (k_X8_isHeap l D cA _ n) ⟨hx, hb, hml, hown, hts⟩ (va_cwS 1 hts gX8_digits_X8_isHeap rfl rfl rfl (by decide +kernel) ⟨by decide, by decide⟩) hK hM rfl hl.1 rfl (Nat.le_of_ble_eq_true rfl) dX8_digits_9 ⟨by decide, by decide⟩ ?_
    refine bz_ne (tgt := 18) hx hb dX8_digits_12 (by decide) (fun c_12 n_12 => ?_) (fun c_12 n_12 => ?_)
    · skip
      have h2 := bI_ne0 c_12
      obtain ⟨ex, x1, x9⟩ := by_of h1
      obtain ⟨en, ln⟩ := hp_heap h2
      refine lv_aload_n hx hb dX8_digits_18 rfl (lv_at hl 0 rfl) ?_
      refine m_get (ci := 8) (C := RX8) (T := TX8) (N := 2) (v := .ref J) hx hb hts in_X8 hown hK hM hg rfl 0 (by decide) fl_10 (fun _ h => h) rfl dX8_digits_19 ?_
      refine m_getN (ci := 2) (C := RX2) (T := TX2) (N := 5) (v := .ref TG) hx hb hts in_X2 hown hK hM hj rfl 0 (by decide) fl_89 (fun _ h => h) rfl dX8_digits_22 ?_
      refine lv_iload_n hx hb dX8_digits_25 rfl (lv_at hl 1 rfl) ?_
      refine cmV (As := [.int x]) (rest := []) (by have h9 := k_X7_sumsBy l D cA _ TG SM (nB x) hT hW0 x1 x9; rw [← ex] at h9; exact h9) ⟨hx, hb, hml, hown, hts⟩ (cwV 1 hts gX8_digits_X7_sumsBy rfl rfl rfl (by decide +kernel) ⟨by decide, by decide⟩) hK hh hT rfl rfl hl.1 rfl (Nat.le_of_ble_eq_true rfl) dX8_digits_26 ⟨by decide, by decide⟩ (fun v9 M1 H1 locs1 hpost hh hz9 hk9 hn9 => ?_)
      obtain ⟨⟨sa, rfl, hsw⟩, hW1, hkc⟩ := hpost
      obtain ⟨n0, f, hS1, hN1, hf1⟩ := id hsw
      have hS : M1 sa = some (.inr (6, [.ref n0, .int (nI (rsz (nB x)))])) := hS1
      have hkp := hkp.call hkc (by simp)
      have hM := hh.1
      refine W.widen (k := 3) (n := 242) (by decide) (by decide) ?_
      refine W.eq (g2 := F0 m 29 ls [.ref sa]) rfl ?_
      refine lv_lload_n hx hb dX8_digits_29 rfl (lv_at hl 2 rfl) ?_
      refine cpV (As := [.long n]) (rest := []) (by have h9 := k_X6_countOf l D cA _ (nB x) sa (nL n) hsw x1 x9 ln; rw [← en] at h9; exact h9) ⟨hx, hb, hml, hown, hts⟩ (cwV 1 hts gX8_digits_X6_countOf rfl rfl rfl (by decide +kernel) ⟨by decide, by decide⟩) hK hM hS rfl rfl hl.1 rfl (Nat.le_of_ble_eq_true rfl) dX8_digits_30 ⟨by decide, by decide⟩ ?_
      exact hreti _ _ _ _ _ _ _ _ hh (⟨by unfold diV; rw [show byB x = true from h1, show hpB n = true from h2, if_pos t2, cnF_top x1 x9 ln]; rfl, hW1, hkp⟩) (by decide) (by decide) dX8_digits_33 rfl
    · skip
      have h2 := bI_eq0 c_12
      refine lv_bipush (v := (-2)) hx hb dX8_digits_15 (by decide) ?_
      exact hreti _ _ _ _ _ _ _ _ hh (⟨by simp [diV, h1, h2], hW0, hkp⟩) (by decide) (by decide) dX8_digits_17 rfl
set_option maxHeartbeats 1000000 in
set_option maxRecDepth 100000 in
theorem k_X8_last (l : Launch) (D : va_G) (cA : Nat → ClassId) (M : mp) (g J P TG GO SG BG TM : Nat) (SM : Nat) (x : Int32) (n : Int64) (hg : M g = some (.inr (8, [.ref J, .ref P]))) (hJ : judW cA M J TG GO SG BG TM) (hT : M TG = some (.inr (7, [.ref SM]))) (hW0 : smW cA M SM)  : MC l D cA yX8_last wsX8_last 3 68 3 242 [.ref g, .int x, .long n] M (fun r M' => r = some (.long (laV x n)) ∧ smW cA M' SM ∧ kpL M M' [SM]) := by
  refine MC.of (cc := cX8_last) (maxL := 4) (ret := (some .long)) (by decide) rfl (Nat.le_of_ble_eq_true rfl) ?_
  intro p e s m args below meth c Q ls B hh hl hretv hreti hretz hretl hreta
  obtain ⟨hx, hb, hown, hts, hml, hK, hin⟩ := B
  have hM := hh.1
  have hM_0 := hh.1
  have hkp : kpL M M [SM] := kpL.rf M _
  have hown : s.vm.findClass RX8 = some m.cls := hown
  have hl : lv_has ls 4 [(0, .ref g), (1, .int x), (2, .long n)] := hl
  have cst_43 := hts (.constantLong RX8 43 (-2)) (by decide +kernel)
  have cst_109 := hts (.constantLong RX8 109 (1000000000000)) (by decide +kernel)
  have in_X8 : ∀ w ∈ wsX80, w ∈ wsX8_last := by decide +kernel
  have fl_10 := hts (.fieldLink RX8 10 "GoldHeaps" "judge" "LGoldHeaps$Judge;") (by decide +kernel)
  have in_X2 : ∀ w ∈ wsX20, w ∈ wsX8_last := by decide +kernel
  have fl_89 := (hK.2.1 (.fieldLinkNest "GoldHeaps" 89 "GoldHeaps$Judge" "timesGame" "LGoldHeaps$TimesGame;" "GoldHeaps") (by decide +kernel)).use (A := args) rfl
  have hJ0 := hJ
  obtain ⟨hj, hsg, hbg, hG0⟩ := hJ
  refine lv_iload_n hx hb dX8_last_0 rfl (lv_at hl 1 rfl) ?_
  refine lv_i2l hx hb dX8_last_1 rfl ?_
  refine cpS (As := [.long ((x).toInt64)]) (rest := []) (k_X8_isFactor l D cA _ x.toInt64) ⟨hx, hb, hml, hown, hts⟩ (va_cwS 1 hts gX8_last_X8_isFactor rfl rfl rfl (by decide +kernel) ⟨by decide, by decide⟩) hK hM rfl hl.1 rfl (Nat.le_of_ble_eq_true rfl) dX8_last_2 ⟨by decide, by decide⟩ ?_
  refine bz_eq (tgt := 19) hx hb dX8_last_5 (by decide) (fun c_5 n_5 => ?_) (fun c_5 n_5 => ?_)
  · skip
    have h1 := bI_eq0 c_5
    refine lv_ldc2 hx hb hown cst_43 dX8_last_19 ?_
    exact hretl _ _ _ _ _ _ _ _ hh (⟨by simp [laV, h1], hW0, hkp⟩) (by decide) (by decide) dX8_last_22 rfl
  · skip
    have h1 := bI_ne0 c_5
    refine lv_lload_n hx hb dX8_last_8 rfl (lv_at hl 2 rfl) ?_
    refine lv_lconst (v := 1) hx hb dX8_last_9 (by decide) ?_
    refine lv_ldc2 hx hb hown cst_109 dX8_last_10 ?_
    refine cpS (As := [.long n, .long 1, .long 1000000000000]) (rest := []) (k_X8_isWithin l D cA _ (n) 1 1000000000000) ⟨hx, hb, hml, hown, hts⟩ (va_cwS 3 hts gX8_last_X8_isWithin rfl rfl rfl (by decide +kernel) ⟨by decide, by decide⟩) hK hM rfl hl.1 rfl (Nat.le_of_ble_eq_true rfl) dX8_last_13 ⟨by decide, by decide⟩ ?_
    refine bz_ne (tgt := 23) hx hb dX8_last_16 (by decide) (fun c_16 n_16 => ?_) (fun c_16 n_16 => ?_)
    · skip
      have h2 := bI_ne0 c_16
      obtain ⟨ex, x1, x9⟩ := by_of h1
      obtain ⟨en, ln, -⟩ := hp_1 h2
      refine lv_aload_n hx hb dX8_last_23 rfl (lv_at hl 0 rfl) ?_
      refine m_get (ci := 8) (C := RX8) (T := TX8) (N := 2) (v := .ref J) hx hb hts in_X8 hown hK hM hg rfl 0 (by decide) fl_10 (fun _ h => h) rfl dX8_last_24 ?_
      refine m_getN (ci := 2) (C := RX2) (T := TX2) (N := 5) (v := .ref TG) hx hb hts in_X2 hown hK hM hj rfl 0 (by decide) fl_89 (fun _ h => h) rfl dX8_last_27 ?_
      refine lv_iload_n hx hb dX8_last_30 rfl (lv_at hl 1 rfl) ?_
      refine cmV (As := [.int x]) (rest := []) (by have h9 := k_X7_sumsBy l D cA _ TG SM (nB x) hT hW0 x1 x9; rw [← ex] at h9; exact h9) ⟨hx, hb, hml, hown, hts⟩ (cwV 1 hts gX8_last_X7_sumsBy rfl rfl rfl (by decide +kernel) ⟨by decide, by decide⟩) hK hh hT rfl rfl hl.1 rfl (Nat.le_of_ble_eq_true rfl) dX8_last_31 ⟨by decide, by decide⟩ (fun v9 M1 H1 locs1 hpost hh hz9 hk9 hn9 => ?_)
      obtain ⟨⟨sa, rfl, hsw⟩, hW1, hkc⟩ := hpost
      obtain ⟨n0, f, hS1, hN1, hf1⟩ := id hsw
      have hS : M1 sa = some (.inr (6, [.ref n0, .int (nI (rsz (nB x)))])) := hS1
      have hkp := hkp.call hkc (by simp)
      have hM := hh.1
      refine W.widen (k := 3) (n := 242) (by decide) (by decide) ?_
      refine W.eq (g2 := F0 m 34 ls [.ref sa]) rfl ?_
      refine lv_lload_n hx hb dX8_last_34 rfl (lv_at hl 2 rfl) ?_
      refine cpV (As := [.long n]) (rest := []) (by have h9 := k_X6_endOf l D cA _ (nB x) sa (nL n) hsw x1 x9 ln; rw [← en] at h9; exact h9) ⟨hx, hb, hml, hown, hts⟩ (cwV 1 hts gX8_last_X6_endOf rfl rfl rfl (by decide +kernel) ⟨by decide, by decide⟩) hK hM hS rfl rfl hl.1 rfl (Nat.le_of_ble_eq_true rfl) dX8_last_35 ⟨by decide, by decide⟩ ?_
      exact hretl _ _ _ _ _ _ _ _ hh (⟨by unfold laV; rw [show byB x = true from h1, h2, if_pos t2, enF_top x1 x9 ln]; rfl, hW1, hkp⟩) (by decide) (by decide) dX8_last_38 rfl
    · skip
      have h2 := bI_eq0 c_16
      refine lv_ldc2 hx hb hown cst_43 dX8_last_19 ?_
      exact hretl _ _ _ _ _ _ _ _ hh (⟨by simp [laV, h1, h2], hW0, hkp⟩) (by decide) (by decide) dX8_last_22 rfl
set_option maxHeartbeats 1000000 in
set_option maxRecDepth 100000 in
theorem k_X8_times (l : Launch) (D : va_G) (cA : Nat → ClassId) (M : mp) (g J P TG GO SG BG TM : Nat) (SM : Nat) (x : Int32) (n b : Int64) (hg : M g = some (.inr (8, [.ref J, .ref P]))) (hJ : judW cA M J TG GO SG BG TM) (hT : M TG = some (.inr (7, [.ref SM]))) (hW0 : smW cA M SM)  : MC l D cA yX8_times wsX8_times 5 120 3 242 [.ref g, .int x, .long n, .long b] M (fun r M' => r = some (.int (tiV x n b)) ∧ smW cA M' SM ∧ kpL M M' [SM]) := by
  refine MC.of (cc := cX8_times) (maxL := 6) (ret := (some .int)) (by decide) rfl (Nat.le_of_ble_eq_true rfl) ?_
  intro p e s m args below meth c Q ls B hh hl hretv hreti hretz hretl hreta
  obtain ⟨hx, hb, hown, hts, hml, hK, hin⟩ := B
  have hM := hh.1
  have hM_0 := hh.1
  have hkp : kpL M M [SM] := kpL.rf M _
  have hown : s.vm.findClass RX8 = some m.cls := hown
  have hl : lv_has ls 6 [(0, .ref g), (1, .int x), (2, .long n), (4, .long b)] := hl
  have in_X8 : ∀ w ∈ wsX80, w ∈ wsX8_times := by decide +kernel
  have fl_10 := hts (.fieldLink RX8 10 "GoldHeaps" "judge" "LGoldHeaps$Judge;") (by decide +kernel)
  have in_X2 : ∀ w ∈ wsX20, w ∈ wsX8_times := by decide +kernel
  have fl_89 := (hK.2.1 (.fieldLinkNest "GoldHeaps" 89 "GoldHeaps$Judge" "timesGame" "LGoldHeaps$TimesGame;" "GoldHeaps") (by decide +kernel)).use (A := args) rfl
  have hJ0 := hJ
  obtain ⟨hj, hsg, hbg, hG0⟩ := hJ
  refine lv_iload_n hx hb dX8_times_0 rfl (lv_at hl 1 rfl) ?_
  refine lv_i2l hx hb dX8_times_1 rfl ?_
  refine cpS (As := [.long ((x).toInt64)]) (rest := []) (k_X8_isFactor l D cA _ x.toInt64) ⟨hx, hb, hml, hown, hts⟩ (va_cwS 1 hts gX8_times_X8_isFactor rfl rfl rfl (by decide +kernel) ⟨by decide, by decide⟩) hK hM rfl hl.1 rfl (Nat.le_of_ble_eq_true rfl) dX8_times_2 ⟨by decide, by decide⟩ ?_
  refine bz_eq (tgt := 23) hx hb dX8_times_5 (by decide) (fun c_5 n_5 => ?_) (fun c_5 n_5 => ?_)
  · skip
    have h1 := bI_eq0 c_5
    refine lv_bipush (v := (-2)) hx hb dX8_times_23 (by decide) ?_
    exact hreti _ _ _ _ _ _ _ _ hh (⟨by simp [tiV, h1], hW0, hkp⟩) (by decide) (by decide) dX8_times_25 rfl
  · skip
    have h1 := bI_ne0 c_5
    refine lv_lload_n hx hb dX8_times_8 rfl (lv_at hl 2 rfl) ?_
    refine cpS (As := [.long n]) (rest := []) (k_X8_isHeap l D cA _ n) ⟨hx, hb, hml, hown, hts⟩ (va_cwS 1 hts gX8_times_X8_isHeap rfl rfl rfl (by decide +kernel) ⟨by decide, by decide⟩) hK hM rfl hl.1 rfl (Nat.le_of_ble_eq_true rfl) dX8_times_9 ⟨by decide, by decide⟩ ?_
    refine bz_eq (tgt := 23) hx hb dX8_times_12 (by decide) (fun c_12 n_12 => ?_) (fun c_12 n_12 => ?_)
    · skip
      have h2 := bI_eq0 c_12
      refine lv_bipush (v := (-2)) hx hb dX8_times_23 (by decide) ?_
      exact hreti _ _ _ _ _ _ _ _ hh (⟨by simp [tiV, h1, h2], hW0, hkp⟩) (by decide) (by decide) dX8_times_25 rfl
    · skip
      have h2 := bI_ne0 c_12
      refine lv_lload hx hb dX8_times_15 (lv_at hl 3 rfl) ?_
      refine cpS (As := [.long b]) (rest := []) (k_X8_isHeap l D cA _ b) ⟨hx, hb, hml, hown, hts⟩ (va_cwS 1 hts gX8_times_X8_isHeap rfl rfl rfl (by decide +kernel) ⟨by decide, by decide⟩) hK hM rfl hl.1 rfl (Nat.le_of_ble_eq_true rfl) dX8_times_17 ⟨by decide, by decide⟩ ?_
      refine bz_ne (tgt := 26) hx hb dX8_times_20 (by decide) (fun c_20 n_20 => ?_) (fun c_20 n_20 => ?_)
      · skip
        have h3 := bI_ne0 c_20
        obtain ⟨ex, x1, x9⟩ := by_of h1
        obtain ⟨en, ln⟩ := hp_heap h2
        obtain ⟨eb, lb⟩ := hp_heap h3
        refine lv_aload_n hx hb dX8_times_26 rfl (lv_at hl 0 rfl) ?_
        refine m_get (ci := 8) (C := RX8) (T := TX8) (N := 2) (v := .ref J) hx hb hts in_X8 hown hK hM hg rfl 0 (by decide) fl_10 (fun _ h => h) rfl dX8_times_27 ?_
        refine m_getN (ci := 2) (C := RX2) (T := TX2) (N := 5) (v := .ref TG) hx hb hts in_X2 hown hK hM hj rfl 0 (by decide) fl_89 (fun _ h => h) rfl dX8_times_30 ?_
        refine lv_iload_n hx hb dX8_times_33 rfl (lv_at hl 1 rfl) ?_
        refine lv_lload_n hx hb dX8_times_34 rfl (lv_at hl 2 rfl) ?_
        refine lv_lload hx hb dX8_times_35 (lv_at hl 3 rfl) ?_
        refine cmV (As := [.int x, .long n, .long b]) (rest := []) (by have h9 := k_X7_isWon l D cA _ TG SM (nB x) (nL n) (nL b) hT hW0 x1 x9 ln lb; rw [← ex, ← en, ← eb] at h9; exact h9) ⟨hx, hb, hml, hown, hts⟩ (cwV 3 hts gX8_times_X7_isWon rfl rfl rfl (by decide +kernel) ⟨by decide, by decide⟩) hK hh hT rfl rfl hl.1 rfl (Nat.le_of_ble_eq_true rfl) dX8_times_37 ⟨by decide, by decide⟩ (fun v9 M1 H1 locs1 hpost hh hz9 hk9 hn9 => ?_)
        obtain ⟨rfl, hW1, hkc⟩ := hpost
        have hkp := hkp.call hkc (by simp)
        have hM := hh.1
        refine W.widen (k := 3) (n := 242) (by decide) (by decide) ?_
        refine W.eq (g2 := F0 m 40 ls [.int (bI (tiF (nB x) (nL n) (nL b)))]) rfl ?_
        refine cpS (As := [.int (bI (tiF (nB x) (nL n) (nL b)))]) (rest := []) (k_X8_oneIf l D cA _ (tiF (nB x) (nL n) (nL b))) ⟨hx, hb, hml, hown, hts⟩ (va_cwS 1 hts gX8_times_X8_oneIf rfl rfl rfl (by decide +kernel) ⟨by decide, by decide⟩) hK hM rfl hl.1 rfl (Nat.le_of_ble_eq_true rfl) dX8_times_40 ⟨by decide, by decide⟩ ?_
        exact hreti _ _ _ _ _ _ _ _ hh (⟨by unfold tiV; rw [show byB x = true from h1, show hpB n = true from h2, show hpB b = true from h3, if_pos t3], hW1, hkp⟩) (by decide) (by decide) dX8_times_43 rfl
      · skip
        have h3 := bI_eq0 c_20
        refine lv_bipush (v := (-2)) hx hb dX8_times_23 (by decide) ?_
        exact hreti _ _ _ _ _ _ _ _ hh (⟨by simp [tiV, h1, h2, h3], hW0, hkp⟩) (by decide) (by decide) dX8_times_25 rfl
set_option maxHeartbeats 1000000 in
set_option maxRecDepth 100000 in
theorem k_X8_timesMove (l : Launch) (D : va_G) (cA : Nat → ClassId) (M : mp) (g J P TG GO SG BG TM : Nat) (SM : Nat) (x : Int32) (n b : Int64) (hg : M g = some (.inr (8, [.ref J, .ref P]))) (hJ : judW cA M J TG GO SG BG TM) (hT : M TG = some (.inr (7, [.ref SM]))) (hW0 : smW cA M SM)  : MC l D cA yX8_timesMove wsX8_timesMove 4 95 3 242 [.ref g, .int x, .long n, .long b] M (fun r M' => r = some (.long (tmV x n b)) ∧ smW cA M' SM ∧ kpL M M' [SM]) := by
  refine MC.of (cc := cX8_timesMove) (maxL := 6) (ret := (some .long)) (by decide) rfl (Nat.le_of_ble_eq_true rfl) ?_
  intro p e s m args below meth c Q ls B hh hl hretv hreti hretz hretl hreta
  obtain ⟨hx, hb, hown, hts, hml, hK, hin⟩ := B
  have hM := hh.1
  have hM_0 := hh.1
  have hkp : kpL M M [SM] := kpL.rf M _
  have hown : s.vm.findClass RX8 = some m.cls := hown
  have hl : lv_has ls 6 [(0, .ref g), (1, .int x), (2, .long n), (4, .long b)] := hl
  have cst_43 := hts (.constantLong RX8 43 (-2)) (by decide +kernel)
  have in_X8 : ∀ w ∈ wsX80, w ∈ wsX8_timesMove := by decide +kernel
  have fl_10 := hts (.fieldLink RX8 10 "GoldHeaps" "judge" "LGoldHeaps$Judge;") (by decide +kernel)
  have in_X2 : ∀ w ∈ wsX20, w ∈ wsX8_timesMove := by decide +kernel
  have fl_89 := (hK.2.1 (.fieldLinkNest "GoldHeaps" 89 "GoldHeaps$Judge" "timesGame" "LGoldHeaps$TimesGame;" "GoldHeaps") (by decide +kernel)).use (A := args) rfl
  have hJ0 := hJ
  obtain ⟨hj, hsg, hbg, hG0⟩ := hJ
  refine lv_iload_n hx hb dX8_timesMove_0 rfl (lv_at hl 1 rfl) ?_
  refine lv_i2l hx hb dX8_timesMove_1 rfl ?_
  refine cpS (As := [.long ((x).toInt64)]) (rest := []) (k_X8_isFactor l D cA _ x.toInt64) ⟨hx, hb, hml, hown, hts⟩ (va_cwS 1 hts gX8_timesMove_X8_isFactor rfl rfl rfl (by decide +kernel) ⟨by decide, by decide⟩) hK hM rfl hl.1 rfl (Nat.le_of_ble_eq_true rfl) dX8_timesMove_2 ⟨by decide, by decide⟩ ?_
  refine bz_eq (tgt := 23) hx hb dX8_timesMove_5 (by decide) (fun c_5 n_5 => ?_) (fun c_5 n_5 => ?_)
  · skip
    have h1 := bI_eq0 c_5
    refine lv_ldc2 hx hb hown cst_43 dX8_timesMove_23 ?_
    exact hretl _ _ _ _ _ _ _ _ hh (⟨by simp [tmV, h1], hW0, hkp⟩) (by decide) (by decide) dX8_timesMove_26 rfl
  · skip
    have h1 := bI_ne0 c_5
    refine lv_lload_n hx hb dX8_timesMove_8 rfl (lv_at hl 2 rfl) ?_
    refine cpS (As := [.long n]) (rest := []) (k_X8_isHeap l D cA _ n) ⟨hx, hb, hml, hown, hts⟩ (va_cwS 1 hts gX8_timesMove_X8_isHeap rfl rfl rfl (by decide +kernel) ⟨by decide, by decide⟩) hK hM rfl hl.1 rfl (Nat.le_of_ble_eq_true rfl) dX8_timesMove_9 ⟨by decide, by decide⟩ ?_
    refine bz_eq (tgt := 23) hx hb dX8_timesMove_12 (by decide) (fun c_12 n_12 => ?_) (fun c_12 n_12 => ?_)
    · skip
      have h2 := bI_eq0 c_12
      refine lv_ldc2 hx hb hown cst_43 dX8_timesMove_23 ?_
      exact hretl _ _ _ _ _ _ _ _ hh (⟨by simp [tmV, h1, h2], hW0, hkp⟩) (by decide) (by decide) dX8_timesMove_26 rfl
    · skip
      have h2 := bI_ne0 c_12
      refine lv_lload hx hb dX8_timesMove_15 (lv_at hl 3 rfl) ?_
      refine cpS (As := [.long b]) (rest := []) (k_X8_isHeap l D cA _ b) ⟨hx, hb, hml, hown, hts⟩ (va_cwS 1 hts gX8_timesMove_X8_isHeap rfl rfl rfl (by decide +kernel) ⟨by decide, by decide⟩) hK hM rfl hl.1 rfl (Nat.le_of_ble_eq_true rfl) dX8_timesMove_17 ⟨by decide, by decide⟩ ?_
      refine bz_ne (tgt := 27) hx hb dX8_timesMove_20 (by decide) (fun c_20 n_20 => ?_) (fun c_20 n_20 => ?_)
      · skip
        have h3 := bI_ne0 c_20
        obtain ⟨ex, x1, x9⟩ := by_of h1
        obtain ⟨en, ln⟩ := hp_heap h2
        obtain ⟨eb, lb⟩ := hp_heap h3
        refine lv_aload_n hx hb dX8_timesMove_27 rfl (lv_at hl 0 rfl) ?_
        refine m_get (ci := 8) (C := RX8) (T := TX8) (N := 2) (v := .ref J) hx hb hts in_X8 hown hK hM hg rfl 0 (by decide) fl_10 (fun _ h => h) rfl dX8_timesMove_28 ?_
        refine m_getN (ci := 2) (C := RX2) (T := TX2) (N := 5) (v := .ref TG) hx hb hts in_X2 hown hK hM hj rfl 0 (by decide) fl_89 (fun _ h => h) rfl dX8_timesMove_31 ?_
        refine lv_iload_n hx hb dX8_timesMove_34 rfl (lv_at hl 1 rfl) ?_
        refine lv_lload_n hx hb dX8_timesMove_35 rfl (lv_at hl 2 rfl) ?_
        refine lv_lload hx hb dX8_timesMove_36 (lv_at hl 3 rfl) ?_
        refine cmV (As := [.int x, .long n, .long b]) (rest := []) (by have h9 := k_X7_leastTaken l D cA _ TG SM (nB x) (nL n) (nL b) hT hW0 x1 x9 ln lb; rw [← ex, ← en, ← eb] at h9; exact h9) ⟨hx, hb, hml, hown, hts⟩ (cwV 3 hts gX8_timesMove_X7_leastTaken rfl rfl rfl (by decide +kernel) ⟨by decide, by decide⟩) hK hh hT rfl rfl hl.1 rfl (Nat.le_of_ble_eq_true rfl) dX8_timesMove_38 ⟨by decide, by decide⟩ (fun v9 M1 H1 locs1 hpost hh hz9 hk9 hn9 => ?_)
        obtain ⟨rfl, hW1, hkc⟩ := hpost
        have hkp := hkp.call hkc (by simp)
        have hM := hh.1
        refine W.widen (k := 3) (n := 242) (by decide) (by decide) ?_
        refine W.eq (g2 := F0 m 41 ls [.long ((if enD (nB x) (nL n) ≤ nL b then lN (enD (nB x) (nL n)) else 0))]) rfl ?_
        exact hretl _ _ _ _ _ _ _ _ hh (⟨by unfold tmV; rw [show byB x = true from h1, show hpB n = true from h2, show hpB b = true from h3, if_pos t3, tm_eq x1 x9], hW1, hkp⟩) (by decide) (by decide) dX8_timesMove_41 rfl
      · skip
        have h3 := bI_eq0 c_20
        refine lv_ldc2 hx hb hown cst_43 dX8_timesMove_23 ?_
        exact hretl _ _ _ _ _ _ _ _ hh (⟨by simp [tmV, h1, h2, h3], hW0, hkp⟩) (by decide) (by decide) dX8_timesMove_26 rfl
