set_option maxHeartbeats 4000000 in
set_option maxRecDepth 100000 in
theorem k_X8_isWithin (l : Launch) (D : va_G) (cA : Nat → ClassId) (M : mp) (n a b : Int64)  : PC l D cA yX8_isWithin wsX8_isWithin 0 0 [.long n, .long a, .long b] M (some (.int (bI (inW n a b)))) := by
  refine PC.zz (cc := cX8_isWithin) (maxL := 6) (by decide) rfl (Nat.le_of_ble_eq_true rfl) ?_
  intro p e s m args below meth c H Q ls B hM hl hret
  obtain ⟨hx, hb, hown, hts, hml, hK, hin⟩ := B
  have hown : s.vm.findClass RX8 = some m.cls := hown
  have hl : lv_has ls 6 [(0, .long n), (2, .long a), (4, .long b)] := hl
  refine lv_lload_n hx hb dX8_isWithin_0 rfl (lv_at hl 0 rfl) ?_
  refine lv_lload_n hx hb dX8_isWithin_1 rfl (lv_at hl 1 rfl) ?_
  refine bl_lt (tgt := 17) hx hb dX8_isWithin_2 dX8_isWithin_3 (by decide) (fun c_3 n_3 => ?_) (fun c_3 n_3 => ?_)
  · skip
    refine lv_iconst (v := 0) hx hb dX8_isWithin_17 (by decide) ?_
    exact hret _ _ _ dX8_isWithin_18 (by simp [inW, bI, c_3, n_3])
  · skip
    refine lv_lload_n hx hb dX8_isWithin_6 rfl (lv_at hl 0 rfl) ?_
    refine lv_lload hx hb dX8_isWithin_7 (lv_at hl 2 rfl) ?_
    refine bl_gt (tgt := 17) hx hb dX8_isWithin_9 dX8_isWithin_10 (by decide) (fun c_10 n_10 => ?_) (fun c_10 n_10 => ?_)
    · skip
      refine lv_iconst (v := 0) hx hb dX8_isWithin_17 (by decide) ?_
      exact hret _ _ _ dX8_isWithin_18 (by simp [inW, bI, c_3, n_3, c_10, n_10])
    · skip
      refine lv_iconst (v := 1) hx hb dX8_isWithin_13 (by decide) ?_
      refine lv_goto (tgt := 18) hx hb dX8_isWithin_14 (by decide) ?_
      exact hret _ _ _ dX8_isWithin_18 (by simp [inW, bI, c_3, n_3, c_10, n_10])
set_option maxHeartbeats 4000000 in
set_option maxRecDepth 100000 in
theorem k_X9_in (l : Launch) (D : va_G) (cA : Nat → ClassId) (M : mp) (n a b : Int64)  : PC l D cA yX9_in wsX9_in 0 0 [.long n, .long a, .long b] M (some (.int (bI (inW n a b)))) := by
  refine PC.zz (cc := cX9_in) (maxL := 6) (by decide) rfl (Nat.le_of_ble_eq_true rfl) ?_
  intro p e s m args below meth c H Q ls B hM hl hret
  obtain ⟨hx, hb, hown, hts, hml, hK, hin⟩ := B
  have hown : s.vm.findClass RX9 = some m.cls := hown
  have hl : lv_has ls 6 [(0, .long n), (2, .long a), (4, .long b)] := hl
  refine lv_lload_n hx hb dX9_in_0 rfl (lv_at hl 0 rfl) ?_
  refine lv_lload_n hx hb dX9_in_1 rfl (lv_at hl 1 rfl) ?_
  refine bl_lt (tgt := 17) hx hb dX9_in_2 dX9_in_3 (by decide) (fun c_3 n_3 => ?_) (fun c_3 n_3 => ?_)
  · skip
    refine lv_iconst (v := 0) hx hb dX9_in_17 (by decide) ?_
    exact hret _ _ _ dX9_in_18 (by simp [inW, bI, c_3, n_3])
  · skip
    refine lv_lload_n hx hb dX9_in_6 rfl (lv_at hl 0 rfl) ?_
    refine lv_lload hx hb dX9_in_7 (lv_at hl 2 rfl) ?_
    refine bl_gt (tgt := 17) hx hb dX9_in_9 dX9_in_10 (by decide) (fun c_10 n_10 => ?_) (fun c_10 n_10 => ?_)
    · skip
      refine lv_iconst (v := 0) hx hb dX9_in_17 (by decide) ?_
      exact hret _ _ _ dX9_in_18 (by simp [inW, bI, c_3, n_3, c_10, n_10])
    · skip
      refine lv_iconst (v := 1) hx hb dX9_in_13 (by decide) ?_
      refine lv_goto (tgt := 18) hx hb dX9_in_14 (by decide) ?_
      exact hret _ _ _ dX9_in_18 (by simp [inW, bI, c_3, n_3, c_10, n_10])
set_option maxHeartbeats 4000000 in
set_option maxRecDepth 100000 in
theorem k_X8_isHeap (l : Launch) (D : va_G) (cA : Nat → ClassId) (M : mp) (n : Int64)  : PC l D cA yX8_isHeap wsX8_isHeap 1 25 [.long n] M (some (.int (bI (inW n 0 1000000000000)))) := by
  refine PC.zz (cc := cX8_isHeap) (maxL := 2) (by decide) rfl (Nat.le_of_ble_eq_true rfl) ?_
  intro p e s m args below meth c H Q ls B hM hl hret
  obtain ⟨hx, hb, hown, hts, hml, hK, hin⟩ := B
  have hown : s.vm.findClass RX8 = some m.cls := hown
  have hl : lv_has ls 2 [(0, .long n)] := hl
  have cst_109 := hts (.constantLong RX8 109 (1000000000000)) (by decide +kernel)
  refine lv_lload_n hx hb dX8_isHeap_0 rfl (lv_at hl 0 rfl) ?_
  refine lv_lconst (v := 0) hx hb dX8_isHeap_1 (by decide) ?_
  refine lv_ldc2 hx hb hown cst_109 dX8_isHeap_2 ?_
  refine cpS (As := [.long n, .long 0, .long 1000000000000]) (rest := []) (k_X8_isWithin l D cA M n 0 1000000000000) ⟨hx, hb, hml, hown, hts⟩ (va_cwS 3 hts gX8_isHeap_X8_isWithin rfl rfl rfl (by decide +kernel) ⟨by decide, by decide⟩) hK hM rfl hl.1 rfl (Nat.le_of_ble_eq_true rfl) dX8_isHeap_5 ⟨by decide, by decide⟩ ?_
  exact hret _ _ _ dX8_isHeap_8 (rfl)
set_option maxHeartbeats 4000000 in
set_option maxRecDepth 100000 in
theorem k_X9_isHeap (l : Launch) (D : va_G) (cA : Nat → ClassId) (M : mp) (n : Int64)  : PC l D cA yX9_isHeap wsX9_isHeap 1 25 [.long n] M (some (.int (bI (inW n 0 1000000000000)))) := by
  refine PC.zz (cc := cX9_isHeap) (maxL := 2) (by decide) rfl (Nat.le_of_ble_eq_true rfl) ?_
  intro p e s m args below meth c H Q ls B hM hl hret
  obtain ⟨hx, hb, hown, hts, hml, hK, hin⟩ := B
  have hown : s.vm.findClass RX9 = some m.cls := hown
  have hl : lv_has ls 2 [(0, .long n)] := hl
  have cst_48 := hts (.constantLong RX9 48 (1000000000000)) (by decide +kernel)
  refine lv_lload_n hx hb dX9_isHeap_0 rfl (lv_at hl 0 rfl) ?_
  refine lv_lconst (v := 0) hx hb dX9_isHeap_1 (by decide) ?_
  refine lv_ldc2 hx hb hown cst_48 dX9_isHeap_2 ?_
  refine cpS (As := [.long n, .long 0, .long 1000000000000]) (rest := []) (k_X9_in l D cA M n 0 1000000000000) ⟨hx, hb, hml, hown, hts⟩ (va_cwS 3 hts gX9_isHeap_X9_in rfl rfl rfl (by decide +kernel) ⟨by decide, by decide⟩) hK hM rfl hl.1 rfl (Nat.le_of_ble_eq_true rfl) dX9_isHeap_5 ⟨by decide, by decide⟩ ?_
  exact hret _ _ _ dX9_isHeap_8 (rfl)
set_option maxHeartbeats 4000000 in
set_option maxRecDepth 100000 in
theorem k_X8_isFactor (l : Launch) (D : va_G) (cA : Nat → ClassId) (M : mp) (n : Int64)  : PC l D cA yX8_isFactor wsX8_isFactor 1 25 [.long n] M (some (.int (bI (inW n 1 9)))) := by
  refine PC.zz (cc := cX8_isFactor) (maxL := 2) (by decide) rfl (Nat.le_of_ble_eq_true rfl) ?_
  intro p e s m args below meth c H Q ls B hM hl hret
  obtain ⟨hx, hb, hown, hts, hml, hK, hin⟩ := B
  have hown : s.vm.findClass RX8 = some m.cls := hown
  have hl : lv_has ls 2 [(0, .long n)] := hl
  have cst_180 := hts (.constantLong RX8 180 (9)) (by decide +kernel)
  refine lv_lload_n hx hb dX8_isFactor_0 rfl (lv_at hl 0 rfl) ?_
  refine lv_lconst (v := 1) hx hb dX8_isFactor_1 (by decide) ?_
  refine lv_ldc2 hx hb hown cst_180 dX8_isFactor_2 ?_
  refine cpS (As := [.long n, .long 1, .long 9]) (rest := []) (k_X8_isWithin l D cA M n 1 9) ⟨hx, hb, hml, hown, hts⟩ (va_cwS 3 hts gX8_isFactor_X8_isWithin rfl rfl rfl (by decide +kernel) ⟨by decide, by decide⟩) hK hM rfl hl.1 rfl (Nat.le_of_ble_eq_true rfl) dX8_isFactor_5 ⟨by decide, by decide⟩ ?_
  exact hret _ _ _ dX8_isFactor_8 (rfl)
set_option maxHeartbeats 4000000 in
set_option maxRecDepth 100000 in
theorem k_X8_mostByAll (l : Launch) (D : va_G) (cA : Nat → ClassId) (M : mp) (g : Int32)  : PC l D cA yX8_mostByAll wsX8_mostByAll 0 0 [.int g] M (some (.int (if g = 0 then 60 else if g = 1 then 60 else if g = 3 then 10 else -1))) := by
  refine PC.it (cc := cX8_mostByAll) (maxL := 1) (by decide) rfl (Nat.le_of_ble_eq_true rfl) ?_
  intro p e s m args below meth c H Q ls B hM hl hret
  obtain ⟨hx, hb, hown, hts, hml, hK, hin⟩ := B
  have hown : s.vm.findClass RX8 = some m.cls := hown
  have hl : lv_has ls 1 [(0, .int g)] := hl
  refine lv_iload_n hx hb dX8_mostByAll_0 rfl (lv_at hl 0 rfl) ?_
  refine bz_eq (tgt := 9) hx hb dX8_mostByAll_1 (by decide) (fun c_1 n_1 => ?_) (fun c_1 n_1 => ?_)
  · skip
    refine lv_bipush (v := 60) hx hb dX8_mostByAll_9 (by decide) ?_
    exact hret _ _ _ dX8_mostByAll_11 (by simp [c_1])
  · skip
    refine lv_iload_n hx hb dX8_mostByAll_4 rfl (lv_at hl 0 rfl) ?_
    refine lv_iconst (v := 1) hx hb dX8_mostByAll_5 (by decide) ?_
    refine bi_ne (tgt := 12) hx hb dX8_mostByAll_6 (by decide) (fun c_6 n_6 => ?_) (fun c_6 n_6 => ?_)
    · skip
      refine lv_iload_n hx hb dX8_mostByAll_12 rfl (lv_at hl 0 rfl) ?_
      refine lv_iconst (v := 3) hx hb dX8_mostByAll_13 (by decide) ?_
      refine bi_ne (tgt := 22) hx hb dX8_mostByAll_14 (by decide) (fun c_14 n_14 => ?_) (fun c_14 n_14 => ?_)
      · skip
        refine lv_iconst (v := (-1)) hx hb dX8_mostByAll_22 (by decide) ?_
        exact hret _ _ _ dX8_mostByAll_23 (by simp [c_1, n_1, c_6, n_6, c_14, n_14])
      · skip
        refine lv_bipush (v := 10) hx hb dX8_mostByAll_17 (by decide) ?_
        refine lv_goto (tgt := 23) hx hb dX8_mostByAll_19 (by decide) ?_
        exact hret _ _ _ dX8_mostByAll_23 (by simp [c_1, n_1, c_6, n_6, c_14])
    · skip
      refine lv_bipush (v := 60) hx hb dX8_mostByAll_9 (by decide) ?_
      exact hret _ _ _ dX8_mostByAll_11 (by simp [c_1, n_1, c_6])
set_option maxHeartbeats 4000000 in
set_option maxRecDepth 100000 in
theorem k_X8_oneIf (l : Launch) (D : va_G) (cA : Nat → ClassId) (M : mp) (b : Bool)  : PC l D cA yX8_oneIf wsX8_oneIf 0 0 [.int (bI b)] M (some (.int (bI b))) := by
  refine PC.it (cc := cX8_oneIf) (maxL := 1) (by decide) rfl (Nat.le_of_ble_eq_true rfl) ?_
  intro p e s m args below meth c H Q ls B hM hl hret
  obtain ⟨hx, hb, hown, hts, hml, hK, hin⟩ := B
  have hown : s.vm.findClass RX8 = some m.cls := hown
  have hl : lv_has ls 1 [(0, .int (bI b))] := hl
  refine lv_iload_n hx hb dX8_oneIf_0 rfl (lv_at hl 0 rfl) ?_
  refine bz_eq (tgt := 8) hx hb dX8_oneIf_1 (by decide) (fun c_1 n_1 => ?_) (fun c_1 n_1 => ?_)
  · skip
    refine lv_iconst (v := 0) hx hb dX8_oneIf_8 (by decide) ?_
    exact hret _ _ _ dX8_oneIf_9 (by first | rw [bI_ne0 c_1]; rfl | rw [bI_eq0 c_1]; rfl)
  · skip
    refine lv_iconst (v := 1) hx hb dX8_oneIf_4 (by decide) ?_
    refine lv_goto (tgt := 9) hx hb dX8_oneIf_5 (by decide) ?_
    exact hret _ _ _ dX8_oneIf_9 (by first | rw [bI_ne0 c_1]; rfl | rw [bI_eq0 c_1]; rfl)
