set_option maxHeartbeats 4000000 in
set_option maxRecDepth 100000 in
theorem k_X6_raised (l : Launch) (D : va_G) (cA : Nat → ClassId) (M : mp) (t h0 : Nat) (n : Nat) (hw0 : sumW cA M t h0) (ht1 : 1 ≤ t) (ht9 : t ≤ 9) (hn : n ≤ 1000000000000) : PC l D cA yX6_raised wsX6_raised 0 0 [.ref h0, .long (lN n)] M (some (.long (lN (rsF (rowN t) (rsz t - 1) n)))) := by
  refine PC.lg (cc := cX6_raised) (maxL := 8) (by decide) rfl (Nat.le_of_ble_eq_true rfl) ?_
  intro p e s m args below meth c H Q ls B hM hl hret
  obtain ⟨hx, hb, hown, hts, hml, hK, hin⟩ := B
  have hown : s.vm.findClass RX6 = some m.cls := hown
  have hl : lv_has ls 8 [(0, .ref h0), (1, .long (lN n))] := hl
  have in_X6 : ∀ w ∈ wsX60, w ∈ wsX6_raised := by decide +kernel
  have fl_17 := hts (.fieldLink RX6 17 "GoldHeaps$Sums" "size" "I") (by decide +kernel)
  have fl_11 := hts (.fieldLink RX6 11 "GoldHeaps$Sums" "numbers" "[J") (by decide +kernel)
  obtain ⟨n0, f, hS, hN, hf⟩ := hw0
  obtain ⟨-, -, hz3, hz4, hz5⟩ := row_0 t (by omega) ht1
  refine lv_lload_n hx hb dX6_raised_0 rfl (lv_at hl 1 rfl) ?_
  refine lv_lstore_n (lv' := [(3, .long (lN n)), (0, .ref h0), (1, .long (lN n))]) hx hb dX6_raised_1 rfl hl (by decide) rfl (fun ls hl => ?_)
  refine lv_lconst (v := 0) hx hb dX6_raised_2 (by decide) ?_
  refine lv_lstore (lv' := [(5, .long 0), (3, .long (lN n)), (0, .ref h0), (1, .long (lN n))]) hx hb dX6_raised_3 hl (by decide) rfl (fun ls hl => ?_)
  refine lv_aload_n hx hb dX6_raised_5 rfl (lv_at hl 2 rfl) ?_
  refine m_get (ci := 6) (C := RX6) (T := TX6) (N := 2) (v := .int (nI (rsz t))) hx hb hts in_X6 hown hK hM hS rfl 1 (by decide) fl_17 (fun _ h => h) rfl dX6_raised_6 ?_
  refine lv_iconst (v := 2) hx hb dX6_raised_9 (by decide) ?_
  refine lv_isub hx hb dX6_raised_10 ?_
  refine tpi (x' := nI (rsz t - 1) - 1) (nD_m2 (by omega)) ?_
  refine lv_istore (lv' := [(7, .int (nI (rsz t - 1) - 1)), (5, .long 0), (3, .long (lN n)), (0, .ref h0), (1, .long (lN n))]) hx hb dX6_raised_11 hl (by decide) rfl (fun ls hl => ?_)
  have j_13 : ∀ (fu : Nat) (k left sum : Nat) (ls : Array Slot), (k ≤ rsz t - 1) → (left ≤ n) → (sum + rsF (rowN t) k left = rsF (rowN t) (rsz t - 1) n) → (k < fu) → lv_has ls 8 [(0, .ref h0), (3, .long (lN left)), (5, .long (lN sum)), (7, .int (nI k - 1))] → W p l e ({ frames := 0, cells := 0, slots := 0, locals := 0 } : Room) s m args below meth c H [] 0 0 Q (F0 m 13 ls []) := by
    intro fu
    induction fu with
    | zero => intro k left sum ls hk hle hs hm _; exact absurd hm (Nat.not_lt_zero _)
    | succ fu ih =>
      intro k left sum ls hk hle hs hm hl
      refine lv_iload hx hb dX6_raised_13 (lv_at hl 3 rfl) ?_
      refine bz_lt (tgt := 60) hx hb dX6_raised_15 (by decide) (fun c_15 n_15 => ?_) (fun c_15 n_15 => ?_)
      · skip
        have hk0 := nD_neg (by omega) c_15
        refine lv_lload hx hb dX6_raised_60 (lv_at hl 2 rfl) ?_
        exact hret _ _ _ dX6_raised_62 (by subst hk0; exact congrArg lN hs)
      · skip
        obtain ⟨i, hi⟩ := nD_pos c_15
        have hpos := row_pos ht1 ht9 (i := i) (by omega)
        refine lv_aload_n hx hb dX6_raised_18 rfl (lv_at hl 0 rfl) ?_
        refine m_get (ci := 6) (C := RX6) (T := TX6) (N := 2) (v := .ref n0) hx hb hts in_X6 hown hK hM hS rfl 0 (by decide) fl_11 (fun _ h => h) rfl dX6_raised_19 ?_
        refine lv_iload hx hb dX6_raised_22 (lv_at hl 3 rfl) ?_
        refine m_laldN (k := i) hx hb hK hM hN (nD_at hi) (by omega) (by decide) dX6_raised_24 ?_
        refine tpl (x' := lN (rowN t i)) (hf i (by omega)) ?_
        refine lv_lload_n hx hb dX6_raised_25 rfl (lv_at hl 1 rfl) ?_
        refine bl_gt (tgt := 54) hx hb dX6_raised_26 dX6_raised_27 (by decide) (fun c_27 n_27 => ?_) (fun c_27 n_27 => ?_)
        · skip
          have hlt : left < rowN t i := (ln_lt (by omega) (by omega)).mp c_27
          refine lv_iinc (v := nI i - 1) (lv' := [(7, .int (nI i - 1)), (0, .ref h0), (3, .long (lN left)), (5, .long (lN sum))]) hx hb dX6_raised_54 hl (k := 3) rfl (nD_dec hi) (by decide) rfl (fun ls hl => ?_)
          refine lv_goto (tgt := 13) hx hb dX6_raised_57 (by decide) ?_
          exact ih i left sum _ (by omega) hle (by rw [← hs, hi]; show sum + _ = sum + (if rowN t i ≤ left then _ else _); rw [if_neg (by omega)]) (by omega) (lv_sub hl [1, 2, 3, 0] rfl)
        · skip
          have hge : rowN t i ≤ left := (ln_le (by omega) (by omega)).mp c_27
          refine lv_lload_n hx hb dX6_raised_30 rfl (lv_at hl 1 rfl) ?_
          refine lv_aload_n hx hb dX6_raised_31 rfl (lv_at hl 0 rfl) ?_
          refine m_get (ci := 6) (C := RX6) (T := TX6) (N := 2) (v := .ref n0) hx hb hts in_X6 hown hK hM hS rfl 0 (by decide) fl_11 (fun _ h => h) rfl dX6_raised_32 ?_
          refine lv_iload hx hb dX6_raised_35 (lv_at hl 3 rfl) ?_
          refine m_laldN (k := i) hx hb hK hM hN (nD_at hi) (by omega) (by decide) dX6_raised_37 ?_
          refine tpl (x' := lN (rowN t i)) (hf i (by omega)) ?_
          refine lv_lsub hx hb dX6_raised_38 ?_
          refine tpl (x' := lN (left - rowN t i)) (lN_sub hge) ?_
          refine lv_lstore_n (lv' := [(3, .long (lN (left - rowN t i))), (0, .ref h0), (5, .long (lN sum)), (7, .int (nI k - 1))]) hx hb dX6_raised_39 rfl hl (by decide) rfl (fun ls hl => ?_)
          refine lv_lload hx hb dX6_raised_40 (lv_at hl 2 rfl) ?_
          refine lv_aload_n hx hb dX6_raised_42 rfl (lv_at hl 1 rfl) ?_
          refine m_get (ci := 6) (C := RX6) (T := TX6) (N := 2) (v := .ref n0) hx hb hts in_X6 hown hK hM hS rfl 0 (by decide) fl_11 (fun _ h => h) rfl dX6_raised_43 ?_
          refine lv_iload hx hb dX6_raised_46 (lv_at hl 3 rfl) ?_
          refine lv_iconst (v := 1) hx hb dX6_raised_48 (by decide) ?_
          refine lv_iadd hx hb dX6_raised_49 ?_
          refine m_laldN (k := i + 1) hx hb hK hM hN (nD_up hi) (by omega) (by decide) dX6_raised_50 ?_
          refine tpl (x' := lN (rowN t (i + 1))) (hf (i + 1) (by omega)) ?_
          refine lv_ladd hx hb dX6_raised_51 ?_
          refine tpl (x' := lN (sum + rowN t (i + 1))) (lN_add _ _) ?_
          refine lv_lstore (lv' := [(5, .long (lN (sum + rowN t (i + 1)))), (3, .long (lN (left - rowN t i))), (0, .ref h0), (7, .int (nI k - 1))]) hx hb dX6_raised_52 hl (by decide) rfl (fun ls hl => ?_)
          refine lv_iinc (v := nI i - 1) (lv' := [(7, .int (nI i - 1)), (5, .long (lN (sum + rowN t (i + 1)))), (3, .long (lN (left - rowN t i))), (0, .ref h0)]) hx hb dX6_raised_54 hl (k := 3) rfl (nD_dec hi) (by decide) rfl (fun ls hl => ?_)
          refine lv_goto (tgt := 13) hx hb dX6_raised_57 (by decide) ?_
          exact ih i (left - rowN t i) (sum + rowN t (i + 1)) _ (by omega) (by omega) (by rw [← hs, hi]; show _ = sum + (if rowN t i ≤ left then _ else _); rw [if_pos hge]; omega) (by omega) (lv_sub hl [3, 2, 1, 0] rfl)
  exact j_13 (rsz t) (rsz t - 1) n 0 _ (Nat.le_refl _) (Nat.le_refl _) (Nat.zero_add _) (by omega) (lv_sub hl [3, 2, 1, 0] rfl)
set_option maxHeartbeats 4000000 in
set_option maxRecDepth 100000 in
theorem k_X6_endOf (l : Launch) (D : va_G) (cA : Nat → ClassId) (M : mp) (t h0 : Nat) (n : Nat) (hw0 : sumW cA M t h0) (ht1 : 1 ≤ t) (ht9 : t ≤ 9) (hn : n ≤ 1000000000000) : PC l D cA yX6_endOf wsX6_endOf 0 0 [.ref h0, .long (lN n)] M (some (.long (lN (enF (rowN t) (rsz t) n 0)))) := by
  refine PC.lg (cc := cX6_endOf) (maxL := 8) (by decide) rfl (Nat.le_of_ble_eq_true rfl) ?_
  intro p e s m args below meth c H Q ls B hM hl hret
  obtain ⟨hx, hb, hown, hts, hml, hK, hin⟩ := B
  have hown : s.vm.findClass RX6 = some m.cls := hown
  have hl : lv_has ls 8 [(0, .ref h0), (1, .long (lN n))] := hl
  have in_X6 : ∀ w ∈ wsX60, w ∈ wsX6_endOf := by decide +kernel
  have fl_17 := hts (.fieldLink RX6 17 "GoldHeaps$Sums" "size" "I") (by decide +kernel)
  have fl_11 := hts (.fieldLink RX6 11 "GoldHeaps$Sums" "numbers" "[J") (by decide +kernel)
  obtain ⟨n0, f, hS, hN, hf⟩ := hw0
  obtain ⟨-, -, hz3, hz4, hz5⟩ := row_0 t (by omega) ht1
  refine lv_lload_n hx hb dX6_endOf_0 rfl (lv_at hl 1 rfl) ?_
  refine lv_lstore_n (lv' := [(3, .long (lN n)), (0, .ref h0), (1, .long (lN n))]) hx hb dX6_endOf_1 rfl hl (by decide) rfl (fun ls hl => ?_)
  refine lv_lconst (v := 0) hx hb dX6_endOf_2 (by decide) ?_
  refine lv_lstore (lv' := [(5, .long 0), (3, .long (lN n)), (0, .ref h0), (1, .long (lN n))]) hx hb dX6_endOf_3 hl (by decide) rfl (fun ls hl => ?_)
  refine lv_aload_n hx hb dX6_endOf_5 rfl (lv_at hl 2 rfl) ?_
  refine m_get (ci := 6) (C := RX6) (T := TX6) (N := 2) (v := .int (nI (rsz t))) hx hb hts in_X6 hown hK hM hS rfl 1 (by decide) fl_17 (fun _ h => h) rfl dX6_endOf_6 ?_
  refine lv_iconst (v := 1) hx hb dX6_endOf_9 (by decide) ?_
  refine lv_isub hx hb dX6_endOf_10 ?_
  refine lv_istore (lv' := [(7, .int ((nI (rsz t) - 1))), (5, .long 0), (3, .long (lN n)), (0, .ref h0), (1, .long (lN n))]) hx hb dX6_endOf_11 hl (by decide) rfl (fun ls hl => ?_)
  have j_13 : ∀ (fu : Nat) (k left x : Nat) (ls : Array Slot), (k ≤ rsz t) → (left ≤ n) → (enF (rowN t) k left x = enF (rowN t) (rsz t) n 0) → (k < fu) → lv_has ls 8 [(0, .ref h0), (3, .long (lN left)), (5, .long (lN x)), (7, .int (nI k - 1))] → W p l e ({ frames := 0, cells := 0, slots := 0, locals := 0 } : Room) s m args below meth c H [] 0 0 Q (F0 m 13 ls []) := by
    intro fu
    induction fu with
    | zero => intro k left x ls hk hle hs hm _; exact absurd hm (Nat.not_lt_zero _)
    | succ fu ih =>
      intro k left x ls hk hle hs hm hl
      refine lv_iload hx hb dX6_endOf_13 (lv_at hl 3 rfl) ?_
      refine bz_lt (tgt := 55) hx hb dX6_endOf_15 (by decide) (fun c_15 n_15 => ?_) (fun c_15 n_15 => ?_)
      · skip
        have hk0 := nD_neg (by omega) c_15
        refine lv_lload hx hb dX6_endOf_55 (lv_at hl 2 rfl) ?_
        exact hret _ _ _ dX6_endOf_57 (by subst hk0; exact congrArg lN hs)
      · skip
        obtain ⟨i, hi⟩ := nD_pos c_15
        have hpos := row_pos ht1 ht9 (i := i) (by omega)
        refine lv_aload_n hx hb dX6_endOf_18 rfl (lv_at hl 0 rfl) ?_
        refine m_get (ci := 6) (C := RX6) (T := TX6) (N := 2) (v := .ref n0) hx hb hts in_X6 hown hK hM hS rfl 0 (by decide) fl_11 (fun _ h => h) rfl dX6_endOf_19 ?_
        refine lv_iload hx hb dX6_endOf_22 (lv_at hl 3 rfl) ?_
        refine m_laldN (k := i) hx hb hK hM hN (nD_at hi) (by omega) (by decide) dX6_endOf_24 ?_
        refine tpl (x' := lN (rowN t i)) (hf i (by omega)) ?_
        refine lv_lload_n hx hb dX6_endOf_25 rfl (lv_at hl 1 rfl) ?_
        refine bl_gt (tgt := 49) hx hb dX6_endOf_26 dX6_endOf_27 (by decide) (fun c_27 n_27 => ?_) (fun c_27 n_27 => ?_)
        · skip
          have hlt : left < rowN t i := (ln_lt (by omega) (by omega)).mp c_27
          refine lv_iinc (v := nI i - 1) (lv' := [(7, .int (nI i - 1)), (0, .ref h0), (3, .long (lN left)), (5, .long (lN x))]) hx hb dX6_endOf_49 hl (k := 3) rfl (nD_dec hi) (by decide) rfl (fun ls hl => ?_)
          refine lv_goto (tgt := 13) hx hb dX6_endOf_52 (by decide) ?_
          exact ih i left x _ (by omega) hle (by rw [← hs, hi]; show enF _ i left x = (if rowN t i ≤ left then _ else _); rw [if_neg (by omega)]) (by omega) (lv_sub hl [1, 2, 3, 0] rfl)
        · skip
          have hge : rowN t i ≤ left := (ln_le (by omega) (by omega)).mp c_27
          refine lv_lload_n hx hb dX6_endOf_30 rfl (lv_at hl 1 rfl) ?_
          refine lv_aload_n hx hb dX6_endOf_31 rfl (lv_at hl 0 rfl) ?_
          refine m_get (ci := 6) (C := RX6) (T := TX6) (N := 2) (v := .ref n0) hx hb hts in_X6 hown hK hM hS rfl 0 (by decide) fl_11 (fun _ h => h) rfl dX6_endOf_32 ?_
          refine lv_iload hx hb dX6_endOf_35 (lv_at hl 3 rfl) ?_
          refine m_laldN (k := i) hx hb hK hM hN (nD_at hi) (by omega) (by decide) dX6_endOf_37 ?_
          refine tpl (x' := lN (rowN t i)) (hf i (by omega)) ?_
          refine lv_lsub hx hb dX6_endOf_38 ?_
          refine tpl (x' := lN (left - rowN t i)) (lN_sub hge) ?_
          refine lv_lstore_n (lv' := [(3, .long (lN (left - rowN t i))), (0, .ref h0), (5, .long (lN x)), (7, .int (nI k - 1))]) hx hb dX6_endOf_39 rfl hl (by decide) rfl (fun ls hl => ?_)
          refine lv_aload_n hx hb dX6_endOf_40 rfl (lv_at hl 1 rfl) ?_
          refine m_get (ci := 6) (C := RX6) (T := TX6) (N := 2) (v := .ref n0) hx hb hts in_X6 hown hK hM hS rfl 0 (by decide) fl_11 (fun _ h => h) rfl dX6_endOf_41 ?_
          refine lv_iload hx hb dX6_endOf_44 (lv_at hl 3 rfl) ?_
          refine m_laldN (k := i) hx hb hK hM hN (nD_at hi) (by omega) (by decide) dX6_endOf_46 ?_
          refine tpl (x' := lN (rowN t i)) (hf i (by omega)) ?_
          refine lv_lstore (lv' := [(5, .long (lN (rowN t i))), (3, .long (lN (left - rowN t i))), (0, .ref h0), (7, .int (nI k - 1))]) hx hb dX6_endOf_47 hl (by decide) rfl (fun ls hl => ?_)
          refine lv_iinc (v := nI i - 1) (lv' := [(7, .int (nI i - 1)), (5, .long (lN (rowN t i))), (3, .long (lN (left - rowN t i))), (0, .ref h0)]) hx hb dX6_endOf_49 hl (k := 3) rfl (nD_dec hi) (by decide) rfl (fun ls hl => ?_)
          refine lv_goto (tgt := 13) hx hb dX6_endOf_52 (by decide) ?_
          exact ih i (left - rowN t i) (rowN t i) _ (by omega) (by omega) (by rw [← hs, hi]; show _ = (if rowN t i ≤ left then _ else _); rw [if_pos hge]) (by omega) (lv_sub hl [3, 2, 1, 0] rfl)
  exact j_13 (rsz t + 1) (rsz t) n 0 _ (Nat.le_refl _) (Nat.le_refl _) rfl (by omega) (lv_sub hl [3, 2, 1, 0] rfl)
set_option maxHeartbeats 4000000 in
set_option maxRecDepth 100000 in
theorem k_X6_countOf (l : Launch) (D : va_G) (cA : Nat → ClassId) (M : mp) (t h0 : Nat) (n : Nat) (hw0 : sumW cA M t h0) (ht1 : 1 ≤ t) (ht9 : t ≤ 9) (hn : n ≤ 1000000000000) : PC l D cA yX6_countOf wsX6_countOf 0 0 [.ref h0, .long (lN n)] M (some (.int (nI (cnF (rowN t) (rsz t) n)))) := by
  refine PC.it (cc := cX6_countOf) (maxL := 7) (by decide) rfl (Nat.le_of_ble_eq_true rfl) ?_
  intro p e s m args below meth c H Q ls B hM hl hret
  obtain ⟨hx, hb, hown, hts, hml, hK, hin⟩ := B
  have hown : s.vm.findClass RX6 = some m.cls := hown
  have hl : lv_has ls 7 [(0, .ref h0), (1, .long (lN n))] := hl
  have in_X6 : ∀ w ∈ wsX60, w ∈ wsX6_countOf := by decide +kernel
  have fl_17 := hts (.fieldLink RX6 17 "GoldHeaps$Sums" "size" "I") (by decide +kernel)
  have fl_11 := hts (.fieldLink RX6 11 "GoldHeaps$Sums" "numbers" "[J") (by decide +kernel)
  obtain ⟨n0, f, hS, hN, hf⟩ := hw0
  obtain ⟨-, -, hz3, hz4, hz5⟩ := row_0 t (by omega) ht1
  refine lv_lload_n hx hb dX6_countOf_0 rfl (lv_at hl 1 rfl) ?_
  refine lv_lstore_n (lv' := [(3, .long (lN n)), (0, .ref h0), (1, .long (lN n))]) hx hb dX6_countOf_1 rfl hl (by decide) rfl (fun ls hl => ?_)
  refine lv_iconst (v := 0) hx hb dX6_countOf_2 (by decide) ?_
  refine lv_istore (lv' := [(5, .int 0), (3, .long (lN n)), (0, .ref h0), (1, .long (lN n))]) hx hb dX6_countOf_3 hl (by decide) rfl (fun ls hl => ?_)
  refine lv_aload_n hx hb dX6_countOf_5 rfl (lv_at hl 2 rfl) ?_
  refine m_get (ci := 6) (C := RX6) (T := TX6) (N := 2) (v := .int (nI (rsz t))) hx hb hts in_X6 hown hK hM hS rfl 1 (by decide) fl_17 (fun _ h => h) rfl dX6_countOf_6 ?_
  refine lv_iconst (v := 1) hx hb dX6_countOf_9 (by decide) ?_
  refine lv_isub hx hb dX6_countOf_10 ?_
  refine lv_istore (lv' := [(6, .int ((nI (rsz t) - 1))), (5, .int 0), (3, .long (lN n)), (0, .ref h0), (1, .long (lN n))]) hx hb dX6_countOf_11 hl (by decide) rfl (fun ls hl => ?_)
  have j_13 : ∀ (fu : Nat) (k left x : Nat) (ls : Array Slot), (k ≤ rsz t) → (left ≤ n) → (x + cnF (rowN t) k left = cnF (rowN t) (rsz t) n) → (k < fu) → lv_has ls 7 [(0, .ref h0), (3, .long (lN left)), (5, .int (nI x)), (6, .int (nI k - 1))] → W p l e ({ frames := 0, cells := 0, slots := 0, locals := 0 } : Room) s m args below meth c H [] 0 0 Q (F0 m 13 ls []) := by
    intro fu
    induction fu with
    | zero => intro k left x ls hk hle hs hm _; exact absurd hm (Nat.not_lt_zero _)
    | succ fu ih =>
      intro k left x ls hk hle hs hm hl
      refine lv_iload hx hb dX6_countOf_13 (lv_at hl 3 rfl) ?_
      refine bz_lt (tgt := 49) hx hb dX6_countOf_15 (by decide) (fun c_15 n_15 => ?_) (fun c_15 n_15 => ?_)
      · skip
        have hk0 := nD_neg (by omega) c_15
        refine lv_iload hx hb dX6_countOf_49 (lv_at hl 2 rfl) ?_
        exact hret _ _ _ dX6_countOf_51 (by subst hk0; exact congrArg nI hs)
      · skip
        obtain ⟨i, hi⟩ := nD_pos c_15
        have hpos := row_pos ht1 ht9 (i := i) (by omega)
        refine lv_aload_n hx hb dX6_countOf_18 rfl (lv_at hl 0 rfl) ?_
        refine m_get (ci := 6) (C := RX6) (T := TX6) (N := 2) (v := .ref n0) hx hb hts in_X6 hown hK hM hS rfl 0 (by decide) fl_11 (fun _ h => h) rfl dX6_countOf_19 ?_
        refine lv_iload hx hb dX6_countOf_22 (lv_at hl 3 rfl) ?_
        refine m_laldN (k := i) hx hb hK hM hN (nD_at hi) (by omega) (by decide) dX6_countOf_24 ?_
        refine tpl (x' := lN (rowN t i)) (hf i (by omega)) ?_
        refine lv_lload_n hx hb dX6_countOf_25 rfl (lv_at hl 1 rfl) ?_
        refine bl_gt (tgt := 43) hx hb dX6_countOf_26 dX6_countOf_27 (by decide) (fun c_27 n_27 => ?_) (fun c_27 n_27 => ?_)
        · skip
          have hlt : left < rowN t i := (ln_lt (by omega) (by omega)).mp c_27
          refine lv_iinc (v := nI i - 1) (lv' := [(6, .int (nI i - 1)), (0, .ref h0), (3, .long (lN left)), (5, .int (nI x))]) hx hb dX6_countOf_43 hl (k := 3) rfl (nD_dec hi) (by decide) rfl (fun ls hl => ?_)
          refine lv_goto (tgt := 13) hx hb dX6_countOf_46 (by decide) ?_
          exact ih i left x _ (by omega) hle (by rw [← hs, hi]; show x + _ = x + (if rowN t i ≤ left then _ else _); rw [if_neg (by omega)]) (by omega) (lv_sub hl [1, 2, 3, 0] rfl)
        · skip
          have hge : rowN t i ≤ left := (ln_le (by omega) (by omega)).mp c_27
          refine lv_lload_n hx hb dX6_countOf_30 rfl (lv_at hl 1 rfl) ?_
          refine lv_aload_n hx hb dX6_countOf_31 rfl (lv_at hl 0 rfl) ?_
          refine m_get (ci := 6) (C := RX6) (T := TX6) (N := 2) (v := .ref n0) hx hb hts in_X6 hown hK hM hS rfl 0 (by decide) fl_11 (fun _ h => h) rfl dX6_countOf_32 ?_
          refine lv_iload hx hb dX6_countOf_35 (lv_at hl 3 rfl) ?_
          refine m_laldN (k := i) hx hb hK hM hN (nD_at hi) (by omega) (by decide) dX6_countOf_37 ?_
          refine tpl (x' := lN (rowN t i)) (hf i (by omega)) ?_
          refine lv_lsub hx hb dX6_countOf_38 ?_
          refine tpl (x' := lN (left - rowN t i)) (lN_sub hge) ?_
          refine lv_lstore_n (lv' := [(3, .long (lN (left - rowN t i))), (0, .ref h0), (5, .int (nI x)), (6, .int (nI k - 1))]) hx hb dX6_countOf_39 rfl hl (by decide) rfl (fun ls hl => ?_)
          refine lv_iinc (v := nI (x + 1)) (lv' := [(5, .int (nI (x + 1))), (3, .long (lN (left - rowN t i))), (0, .ref h0), (6, .int (nI k - 1))]) hx hb dX6_countOf_40 hl (k := 2) rfl (nI_up x) (by decide) rfl (fun ls hl => ?_)
          refine lv_iinc (v := nI i - 1) (lv' := [(6, .int (nI i - 1)), (5, .int (nI (x + 1))), (3, .long (lN (left - rowN t i))), (0, .ref h0)]) hx hb dX6_countOf_43 hl (k := 3) rfl (nD_dec hi) (by decide) rfl (fun ls hl => ?_)
          refine lv_goto (tgt := 13) hx hb dX6_countOf_46 (by decide) ?_
          exact ih i (left - rowN t i) (x + 1) _ (by omega) (by omega) (by rw [← hs, hi]; show _ = x + (if rowN t i ≤ left then _ else _); rw [if_pos hge]; omega) (by omega) (lv_sub hl [3, 2, 1, 0] rfl)
  exact j_13 (rsz t + 1) (rsz t) n 0 _ (Nat.le_refl _) (Nat.le_refl _) (Nat.zero_add _) (by omega) (lv_sub hl [3, 2, 1, 0] rfl)
set_option maxHeartbeats 4000000 in
set_option maxRecDepth 100000 in
theorem k_X6_numberAt (l : Launch) (D : va_G) (cA : Nat → ClassId) (M : mp) (t h0 : Nat) (i : Int32) (hw0 : sumW cA M t h0) (ht1 : 1 ≤ t) (ht9 : t ≤ 9) : PC l D cA yX6_numberAt wsX6_numberAt 0 0 [.ref h0, .int i] M (some (.long (if 0 ≤ i ∧ i.toNatClampNeg < rsz t - 1 then lN (rowN t i.toNatClampNeg) else -1))) := by
  refine PC.lg (cc := cX6_numberAt) (maxL := 2) (by decide) rfl (Nat.le_of_ble_eq_true rfl) ?_
  intro p e s m args below meth c H Q ls B hM hl hret
  obtain ⟨hx, hb, hown, hts, hml, hK, hin⟩ := B
  have hown : s.vm.findClass RX6 = some m.cls := hown
  have hl : lv_has ls 2 [(0, .ref h0), (1, .int i)] := hl
  have cst_21 := hts (.constantLong RX6 21 (-1)) (by decide +kernel)
  have in_X6 : ∀ w ∈ wsX60, w ∈ wsX6_numberAt := by decide +kernel
  have fl_17 := hts (.fieldLink RX6 17 "GoldHeaps$Sums" "size" "I") (by decide +kernel)
  have fl_11 := hts (.fieldLink RX6 11 "GoldHeaps$Sums" "numbers" "[J") (by decide +kernel)
  have cst_15 := hts (.constantLong RX6 15 (1000000000000)) (by decide +kernel)
  obtain ⟨n0, f, hS, hN, hf⟩ := hw0
  obtain ⟨-, -, hz3, hz4, hz5⟩ := row_0 t (by omega) ht1
  refine lv_iload_n hx hb dX6_numberAt_0 rfl (lv_at hl 1 rfl) ?_
  refine bz_lt (tgt := 34) hx hb dX6_numberAt_1 (by decide) (fun c_1 n_1 => ?_) (fun c_1 n_1 => ?_)
  · skip
    refine lv_ldc2 hx hb hown cst_21 dX6_numberAt_34 ?_
    exact hret _ _ _ dX6_numberAt_37 (by rw [if_neg (fun z => n_1 z.1)])
  · skip
    obtain ⟨j, hj, ej⟩ := nI_of (x := i) n_1
    refine lv_iload_n hx hb dX6_numberAt_4 rfl (lv_at hl 1 rfl) ?_
    refine lv_aload_n hx hb dX6_numberAt_5 rfl (lv_at hl 0 rfl) ?_
    refine m_get (ci := 6) (C := RX6) (T := TX6) (N := 2) (v := .int (nI (rsz t))) hx hb hts in_X6 hown hK hM hS rfl 1 (by decide) fl_17 (fun _ h => h) rfl dX6_numberAt_6 ?_
    refine bi_ge (tgt := 34) hx hb dX6_numberAt_9 (by decide) (fun c_9 n_9 => ?_) (fun c_9 n_9 => ?_)
    · skip
      have hjz : rsz t ≤ j := (nI_leI (by omega) hj).mp (by rw [← ej]; exact c_9)
      refine lv_ldc2 hx hb hown cst_21 dX6_numberAt_34 ?_
      exact hret _ _ _ dX6_numberAt_37 (by subst ej; rw [nI_clamp hj, if_neg (fun z => by omega)])
    · skip
      have hjz : j < rsz t := (nI_ltI hj (by omega)).mp (by rw [← ej]; exact c_9)
      have hpos := row_pos ht1 ht9 hjz
      refine lv_aload_n hx hb dX6_numberAt_12 rfl (lv_at hl 0 rfl) ?_
      refine m_get (ci := 6) (C := RX6) (T := TX6) (N := 2) (v := .ref n0) hx hb hts in_X6 hown hK hM hS rfl 0 (by decide) fl_11 (fun _ h => h) rfl dX6_numberAt_13 ?_
      refine lv_iload_n hx hb dX6_numberAt_16 rfl (lv_at hl 1 rfl) ?_
      refine m_laldN (k := j) hx hb hK hM hN (ej) (by omega) (by decide) dX6_numberAt_17 ?_
      refine tpl (x' := lN (rowN t j)) (hf j hjz) ?_
      refine lv_ldc2 hx hb hown cst_15 dX6_numberAt_18 ?_
      refine tpl (x' := lN 1000000000000) (l12) ?_
      refine bl_gt (tgt := 34) hx hb dX6_numberAt_21 dX6_numberAt_22 (by decide) (fun c_22 n_22 => ?_) (fun c_22 n_22 => ?_)
      · skip
        have hbig : 1000000000000 < rowN t j := (ln_lt (by decide) (by omega)).mp c_22
        refine lv_ldc2 hx hb hown cst_21 dX6_numberAt_34 ?_
        exact hret _ _ _ dX6_numberAt_37 (by subst ej; rw [nI_clamp hj, if_neg (fun z => by have := (row_s ht1 ht9 (i := j) (by omega)).2.2.2.1; omega)])
      · skip
        have hsm : rowN t j ≤ 1000000000000 := (ln_le (by omega) (by decide)).mp c_22
        refine lv_aload_n hx hb dX6_numberAt_25 rfl (lv_at hl 0 rfl) ?_
        refine m_get (ci := 6) (C := RX6) (T := TX6) (N := 2) (v := .ref n0) hx hb hts in_X6 hown hK hM hS rfl 0 (by decide) fl_11 (fun _ h => h) rfl dX6_numberAt_26 ?_
        refine lv_iload_n hx hb dX6_numberAt_29 rfl (lv_at hl 1 rfl) ?_
        refine m_laldN (k := j) hx hb hK hM hN (ej) (by omega) (by decide) dX6_numberAt_30 ?_
        refine tpl (x' := lN (rowN t j)) (hf j hjz) ?_
        refine lv_goto (tgt := 37) hx hb dX6_numberAt_31 (by decide) ?_
        exact hret _ _ _ dX6_numberAt_37 (by subst ej; rw [nI_clamp hj, if_pos ⟨c_1, by rcases Nat.lt_or_ge j (rsz t - 1) with g | g; exact g; (have e : j = rsz t - 1 := (by omega)); rw [e] at hsm; omega⟩])
set_option maxHeartbeats 4000000 in
set_option maxRecDepth 100000 in
theorem k_X1_cut (l : Launch) (D : va_G) (cA : Nat → ClassId) (M : mp) (go n : Nat) (hG : goldW cA M go) (hn : n ≤ 1000000000001) : PC l D cA yX1_cut wsX1_cut 1 27 [.ref go, .long (lN n)] M (some (.long (lN (cutF n)))) := by
  refine PC.lg (cc := cX1_cut) (maxL := 3) (by decide) rfl (Nat.le_of_ble_eq_true rfl) ?_
  intro p e s m args below meth c H Q ls B hM hl hret
  obtain ⟨hx, hb, hown, hts, hml, hK, hin⟩ := B
  have hown : s.vm.findClass RX1 = some m.cls := hown
  have hl : lv_has ls 3 [(0, .ref go), (1, .long (lN n))] := hl
  have in_X1 : ∀ w ∈ wsX10, w ∈ wsX1_cut := by decide +kernel
  have fl_7 := hts (.fieldLink RX1 7 "GoldHeaps$Golden" "fibonacci" "LGoldHeaps$Sums;") (by decide +kernel)
  have hG0 := hG
  obtain ⟨s2, n2, f, hg, hs2, hn2, hf⟩ := hG
  refine lv_lload_n hx hb dX1_cut_0 rfl (lv_at hl 1 rfl) ?_
  refine lv_lconst (v := 0) hx hb dX1_cut_1 (by decide) ?_
  refine bl_gt (tgt := 10) hx hb dX1_cut_2 dX1_cut_3 (by decide) (fun c_3 n_3 => ?_) (fun c_3 n_3 => ?_)
  · skip
    have h1 : 1 ≤ n := (ln_lt (by decide) (by omega)).mp (by rw [← l_0]; exact c_3)
    refine lv_lconst (v := 1) hx hb dX1_cut_10 (by decide) ?_
    refine lv_aload_n hx hb dX1_cut_11 rfl (lv_at hl 0 rfl) ?_
    refine m_get (ci := 1) (C := RX1) (T := TX1) (N := 1) (v := .ref s2) hx hb hts in_X1 hown hK hM hg rfl 0 (by decide) fl_7 (fun _ h => h) rfl dX1_cut_12 ?_
    refine lv_lload_n hx hb dX1_cut_15 rfl (lv_at hl 1 rfl) ?_
    refine lv_lconst (v := 1) hx hb dX1_cut_16 (by decide) ?_
    refine lv_lsub hx hb dX1_cut_17 ?_
    refine tpl (x' := lN (n - 1)) (by rw [l_1]; exact lN_sub h1) ?_
    refine cpV (As := [.long (lN (n - 1))]) (rest := [.long 1]) (k_X6_raised l D cA M 2 s2 (n - 1) ⟨n2, f, hs2, hn2, hf⟩ (by decide) (by decide) (by omega)) ⟨hx, hb, hml, hown, hts⟩ (cwV 1 hts gX1_cut_X6_raised rfl rfl rfl (by decide +kernel) ⟨by decide, by decide⟩) hK hM hs2 rfl rfl hl.1 rfl (Nat.le_of_ble_eq_true rfl) dX1_cut_18 ⟨by decide, by decide⟩ ?_
    refine lv_ladd hx hb dX1_cut_21 ?_
    refine tpl (x' := lN (cutF n)) (by rw [l_1, lN_add, cut_row h1]) ?_
    exact hret _ _ _ dX1_cut_22 (rfl)
  · skip
    have h0 : n = 0 := by have := (ln_le (by omega) (by decide)).mp (show lN n ≤ lN 0 by rw [← l_0]; exact c_3); omega
    refine lv_lconst (v := 0) hx hb dX1_cut_6 (by decide) ?_
    refine lv_goto (tgt := 22) hx hb dX1_cut_7 (by decide) ?_
    exact hret _ _ _ dX1_cut_22 (by subst h0; rfl)
set_option maxHeartbeats 4000000 in
set_option maxRecDepth 100000 in
theorem k_X1_indexIfLesser (l : Launch) (D : va_G) (cA : Nat → ClassId) (M : mp) (go n : Nat) (hG : goldW cA M go) (hn : n ≤ 1000000000000) : PC l D cA yX1_indexIfLesser wsX1_indexIfLesser 2 49 [.ref go, .long (lN n)] M (some (.long (lN (idxF n)))) := by
  refine PC.lg (cc := cX1_indexIfLesser) (maxL := 3) (by decide) rfl (Nat.le_of_ble_eq_true rfl) ?_
  intro p e s m args below meth c H Q ls B hM hl hret
  obtain ⟨hx, hb, hown, hts, hml, hK, hin⟩ := B
  have hown : s.vm.findClass RX1 = some m.cls := hown
  have hl : lv_has ls 3 [(0, .ref go), (1, .long (lN n))] := hl
  have hG0 := hG
  obtain ⟨s2, n2, f, hg, hs2, hn2, hf⟩ := hG
  refine lv_lload_n hx hb dX1_indexIfLesser_0 rfl (lv_at hl 1 rfl) ?_
  refine lv_lconst (v := 0) hx hb dX1_indexIfLesser_1 (by decide) ?_
  refine bl_gt (tgt := 10) hx hb dX1_indexIfLesser_2 dX1_indexIfLesser_3 (by decide) (fun c_3 n_3 => ?_) (fun c_3 n_3 => ?_)
  · skip
    have h1 : 1 ≤ n := (ln_lt (by decide) (by omega)).mp (by rw [← l_0]; exact c_3)
    refine lv_aload_n hx hb dX1_indexIfLesser_10 rfl (lv_at hl 0 rfl) ?_
    refine lv_lload_n hx hb dX1_indexIfLesser_11 rfl (lv_at hl 1 rfl) ?_
    refine cpV (As := [.long (lN n)]) (rest := []) (k_X1_cut l D cA M go (n) hG0 (by omega)) ⟨hx, hb, hml, hown, hts⟩ (cwV 1 hts gX1_indexIfLesser_X1_cut rfl rfl rfl (by decide +kernel) ⟨by decide, by decide⟩) hK hM hg rfl rfl hl.1 rfl (Nat.le_of_ble_eq_true rfl) dX1_indexIfLesser_12 ⟨by decide, by decide⟩ ?_
    refine lv_lload_n hx hb dX1_indexIfLesser_15 rfl (lv_at hl 1 rfl) ?_
    refine lv_lsub hx hb dX1_indexIfLesser_16 ?_
    refine tpl (x' := lN (cutF n - n)) (lN_sub (cut_ge (by omega))) ?_
    refine lv_lconst (v := 1) hx hb dX1_indexIfLesser_17 (by decide) ?_
    refine lv_ladd hx hb dX1_indexIfLesser_18 ?_
    refine tpl (x' := lN (idxF n)) (by rw [l_1, lN_add]; unfold idxF; rw [if_neg (by omega)]) ?_
    exact hret _ _ _ dX1_indexIfLesser_19 (rfl)
  · skip
    have h0 : n = 0 := by have := (ln_le (by omega) (by decide)).mp (show lN n ≤ lN 0 by rw [← l_0]; exact c_3); omega
    refine lv_lconst (v := 0) hx hb dX1_indexIfLesser_6 (by decide) ?_
    refine lv_goto (tgt := 19) hx hb dX1_indexIfLesser_7 (by decide) ?_
    exact hret _ _ _ dX1_indexIfLesser_19 (by subst h0; rfl)
set_option maxHeartbeats 4000000 in
set_option maxRecDepth 100000 in
theorem k_X1_isLesser (l : Launch) (D : va_G) (cA : Nat → ClassId) (M : mp) (go n : Nat) (hG : goldW cA M go) (hn : n ≤ 1000000000000) : PC l D cA yX1_isLesser wsX1_isLesser 3 71 [.ref go, .long (lN n)] M (some (.int (bI (isLF n)))) := by
  refine PC.zz (cc := cX1_isLesser) (maxL := 3) (by decide) rfl (Nat.le_of_ble_eq_true rfl) ?_
  intro p e s m args below meth c H Q ls B hM hl hret
  obtain ⟨hx, hb, hown, hts, hml, hK, hin⟩ := B
  have hown : s.vm.findClass RX1 = some m.cls := hown
  have hl : lv_has ls 3 [(0, .ref go), (1, .long (lN n))] := hl
  have hG0 := hG
  obtain ⟨s2, n2, f, hg, hs2, hn2, hf⟩ := hG
  have hi := idxF_le hn
  have hci := cut_le hi
  refine lv_aload_n hx hb dX1_isLesser_0 rfl (lv_at hl 0 rfl) ?_
  refine lv_aload_n hx hb dX1_isLesser_1 rfl (lv_at hl 0 rfl) ?_
  refine lv_lload_n hx hb dX1_isLesser_2 rfl (lv_at hl 1 rfl) ?_
  refine cpV (As := [.long (lN n)]) (rest := [.ref go]) (k_X1_indexIfLesser l D cA M go n hG0 hn) ⟨hx, hb, hml, hown, hts⟩ (cwV 1 hts gX1_isLesser_X1_indexIfLesser rfl rfl rfl (by decide +kernel) ⟨by decide, by decide⟩) hK hM hg rfl rfl hl.1 rfl (Nat.le_of_ble_eq_true rfl) dX1_isLesser_3 ⟨by decide, by decide⟩ ?_
  refine cpV (As := [.long (lN (idxF n))]) (rest := []) (k_X1_cut l D cA M go (idxF n) hG0 (hi)) ⟨hx, hb, hml, hown, hts⟩ (cwV 1 hts gX1_isLesser_X1_cut rfl rfl rfl (by decide +kernel) ⟨by decide, by decide⟩) hK hM hg rfl rfl hl.1 rfl (Nat.le_of_ble_eq_true rfl) dX1_isLesser_6 ⟨by decide, by decide⟩ ?_
  refine lv_lload_n hx hb dX1_isLesser_9 rfl (lv_at hl 1 rfl) ?_
  refine bl_ne (tgt := 18) hx hb dX1_isLesser_10 dX1_isLesser_11 (by decide) (fun c_11 n_11 => ?_) (fun c_11 n_11 => ?_)
  · skip
    have hne : ¬ cutF (idxF n) = n := fun z => c_11 (by rw [z])
    refine lv_iconst (v := 0) hx hb dX1_isLesser_18 (by decide) ?_
    exact hret _ _ _ dX1_isLesser_19 (by unfold isLF; simp [hne, bI])
  · skip
    have he : cutF (idxF n) = n := (ln_eq (by omega) (by omega)).mp c_11
    refine lv_iconst (v := 1) hx hb dX1_isLesser_14 (by decide) ?_
    refine lv_goto (tgt := 19) hx hb dX1_isLesser_15 (by decide) ?_
    exact hret _ _ _ dX1_isLesser_19 (by unfold isLF; simp [he, bI])
set_option maxHeartbeats 4000000 in
set_option maxRecDepth 100000 in
theorem k_X1_indexOf (l : Launch) (D : va_G) (cA : Nat → ClassId) (M : mp) (go n : Nat) (hG : goldW cA M go) (hn : n ≤ 1000000000000) : PC l D cA yX1_indexOf wsX1_indexOf 4 93 [.ref go, .long (lN n)] M (some (.long (lN (idF n)))) := by
  refine PC.lg (cc := cX1_indexOf) (maxL := 3) (by decide) rfl (Nat.le_of_ble_eq_true rfl) ?_
  intro p e s m args below meth c H Q ls B hM hl hret
  obtain ⟨hx, hb, hown, hts, hml, hK, hin⟩ := B
  have hown : s.vm.findClass RX1 = some m.cls := hown
  have hl : lv_has ls 3 [(0, .ref go), (1, .long (lN n))] := hl
  have cst_29 := hts (.constantLong RX1 29 (2)) (by decide +kernel)
  have hG0 := hG
  obtain ⟨s2, n2, f, hg, hs2, hn2, hf⟩ := hG
  refine lv_aload_n hx hb dX1_indexOf_0 rfl (lv_at hl 0 rfl) ?_
  refine lv_lload_n hx hb dX1_indexOf_1 rfl (lv_at hl 1 rfl) ?_
  refine cpV (As := [.long (lN n)]) (rest := []) (k_X1_isLesser l D cA M go n hG0 hn) ⟨hx, hb, hml, hown, hts⟩ (cwV 1 hts gX1_indexOf_X1_isLesser rfl rfl rfl (by decide +kernel) ⟨by decide, by decide⟩) hK hM hg rfl rfl hl.1 rfl (Nat.le_of_ble_eq_true rfl) dX1_indexOf_2 ⟨by decide, by decide⟩ ?_
  refine bz_eq (tgt := 16) hx hb dX1_indexOf_5 (by decide) (fun c_5 n_5 => ?_) (fun c_5 n_5 => ?_)
  · skip
    have hl0 := bI_eq0 c_5
    refine lv_ldc2 hx hb hown cst_29 dX1_indexOf_16 ?_
    refine lv_lload_n hx hb dX1_indexOf_19 rfl (lv_at hl 1 rfl) ?_
    refine lv_lmul hx hb dX1_indexOf_20 ?_
    refine tpl (x' := lN (2 * n)) (by rw [l_2]; exact lN_mul _ _) ?_
    refine lv_aload_n hx hb dX1_indexOf_21 rfl (lv_at hl 0 rfl) ?_
    refine lv_lload_n hx hb dX1_indexOf_22 rfl (lv_at hl 1 rfl) ?_
    refine cpV (As := [.long (lN n)]) (rest := [.long (lN (2 * n))]) (k_X1_cut l D cA M go (n) hG0 (by omega)) ⟨hx, hb, hml, hown, hts⟩ (cwV 1 hts gX1_indexOf_X1_cut rfl rfl rfl (by decide +kernel) ⟨by decide, by decide⟩) hK hM hg rfl rfl hl.1 rfl (Nat.le_of_ble_eq_true rfl) dX1_indexOf_23 ⟨by decide, by decide⟩ ?_
    refine lv_lsub hx hb dX1_indexOf_26 ?_
    refine tpl (x' := lN (2 * n - cutF n)) (lN_sub (cut_le (by omega))) ?_
    exact hret _ _ _ dX1_indexOf_27 (by unfold idF; simp [hl0])
  · skip
    have hl1 := bI_ne0 c_5
    refine lv_aload_n hx hb dX1_indexOf_8 rfl (lv_at hl 0 rfl) ?_
    refine lv_lload_n hx hb dX1_indexOf_9 rfl (lv_at hl 1 rfl) ?_
    refine cpV (As := [.long (lN n)]) (rest := []) (k_X1_indexIfLesser l D cA M go n hG0 hn) ⟨hx, hb, hml, hown, hts⟩ (cwV 1 hts gX1_indexOf_X1_indexIfLesser rfl rfl rfl (by decide +kernel) ⟨by decide, by decide⟩) hK hM hg rfl rfl hl.1 rfl (Nat.le_of_ble_eq_true rfl) dX1_indexOf_10 ⟨by decide, by decide⟩ ?_
    refine lv_goto (tgt := 27) hx hb dX1_indexOf_13 (by decide) ?_
    exact hret _ _ _ dX1_indexOf_27 (by unfold idF; simp [hl1])
set_option maxHeartbeats 4000000 in
set_option maxRecDepth 100000 in
theorem k_X1_partnerOf (l : Launch) (D : va_G) (cA : Nat → ClassId) (M : mp) (go n : Nat) (hG : goldW cA M go) (hn : n ≤ 1000000000000) : PC l D cA yX1_partnerOf wsX1_partnerOf 4 93 [.ref go, .long (lN n)] M (some (.long (lN (prtF n)))) := by
  refine PC.lg (cc := cX1_partnerOf) (maxL := 3) (by decide) rfl (Nat.le_of_ble_eq_true rfl) ?_
  intro p e s m args below meth c H Q ls B hM hl hret
  obtain ⟨hx, hb, hown, hts, hml, hK, hin⟩ := B
  have hown : s.vm.findClass RX1 = some m.cls := hown
  have hl : lv_has ls 3 [(0, .ref go), (1, .long (lN n))] := hl
  have hG0 := hG
  obtain ⟨s2, n2, f, hg, hs2, hn2, hf⟩ := hG
  refine lv_aload_n hx hb dX1_partnerOf_0 rfl (lv_at hl 0 rfl) ?_
  refine lv_lload_n hx hb dX1_partnerOf_1 rfl (lv_at hl 1 rfl) ?_
  refine cpV (As := [.long (lN n)]) (rest := []) (k_X1_isLesser l D cA M go n hG0 hn) ⟨hx, hb, hml, hown, hts⟩ (cwV 1 hts gX1_partnerOf_X1_isLesser rfl rfl rfl (by decide +kernel) ⟨by decide, by decide⟩) hK hM hg rfl rfl hl.1 rfl (Nat.le_of_ble_eq_true rfl) dX1_partnerOf_2 ⟨by decide, by decide⟩ ?_
  refine bz_eq (tgt := 18) hx hb dX1_partnerOf_5 (by decide) (fun c_5 n_5 => ?_) (fun c_5 n_5 => ?_)
  · skip
    have hl0 := bI_eq0 c_5
    refine lv_aload_n hx hb dX1_partnerOf_18 rfl (lv_at hl 0 rfl) ?_
    refine lv_lload_n hx hb dX1_partnerOf_19 rfl (lv_at hl 1 rfl) ?_
    refine cpV (As := [.long (lN n)]) (rest := []) (k_X1_cut l D cA M go (n) hG0 (by omega)) ⟨hx, hb, hml, hown, hts⟩ (cwV 1 hts gX1_partnerOf_X1_cut rfl rfl rfl (by decide +kernel) ⟨by decide, by decide⟩) hK hM hg rfl rfl hl.1 rfl (Nat.le_of_ble_eq_true rfl) dX1_partnerOf_20 ⟨by decide, by decide⟩ ?_
    refine lv_lload_n hx hb dX1_partnerOf_23 rfl (lv_at hl 1 rfl) ?_
    refine lv_lsub hx hb dX1_partnerOf_24 ?_
    refine tpl (x' := lN (cutF n - n)) (lN_sub (cut_ge (by omega))) ?_
    exact hret _ _ _ dX1_partnerOf_25 (by unfold prtF; simp [hl0])
  · skip
    have hl1 := bI_ne0 c_5
    refine lv_lload_n hx hb dX1_partnerOf_8 rfl (lv_at hl 1 rfl) ?_
    refine lv_aload_n hx hb dX1_partnerOf_9 rfl (lv_at hl 0 rfl) ?_
    refine lv_lload_n hx hb dX1_partnerOf_10 rfl (lv_at hl 1 rfl) ?_
    refine cpV (As := [.long (lN n)]) (rest := [.long (lN n)]) (k_X1_indexIfLesser l D cA M go n hG0 hn) ⟨hx, hb, hml, hown, hts⟩ (cwV 1 hts gX1_partnerOf_X1_indexIfLesser rfl rfl rfl (by decide +kernel) ⟨by decide, by decide⟩) hK hM hg rfl rfl hl.1 rfl (Nat.le_of_ble_eq_true rfl) dX1_partnerOf_11 ⟨by decide, by decide⟩ ?_
    refine lv_ladd hx hb dX1_partnerOf_14 ?_
    refine tpl (x' := lN (n + idxF n)) (lN_add _ _) ?_
    refine lv_goto (tgt := 25) hx hb dX1_partnerOf_15 (by decide) ?_
    exact hret _ _ _ dX1_partnerOf_25 (by unfold prtF; simp [hl1])
