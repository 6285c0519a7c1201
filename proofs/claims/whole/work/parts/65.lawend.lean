theorem sub9_neg : ∀ L, L < 9 → nI L - 9 < 0 := by decide
theorem sub9 {L k : Nat} (hL : L ≤ 4608) (hk : k ≤ 5000) (h : nI k ≤ nI L - 9) : k + 9 ≤ L := by
  rcases Nat.lt_or_ge L 9 with g | g
  · exact absurd (Int32.lt_of_le_of_lt h (sub9_neg L g)) (Int32.not_lt.mpr ((nI_leI (a := 0) (b := k) (by decide) (by omega)).mpr (Nat.zero_le k)))
  · have h2 : nI L - 9 = nI (L - 9) := nI_sub (b := 9) g
    rw [h2] at h
    have := (nI_leI (by omega) (by omega)).mp h
    omega
set_option maxHeartbeats 2000000 in
set_option maxRecDepth 100000 in
/-- THE LAW'S LOOP: at its head, with i calls of the script made, class and reference stand for one board -/
theorem lw_loop {p : Program} {l : Launch} {e : Env} {s : State} {m : MethodId} {below : List Frame} {meth : Method} {c : Code} {b L : Nat} {xs : Nat → Int32} {D : va_G} {cA : Nat → ClassId} {x m0 : Nat} (C0 : lw_At p s m meth c b L xs) (hL : L ≤ 4608) (hK : kk D cA s) :
    ∀ (n i : Nat) (MA MB : mp) (H : Heap) (locs : List Loc) (ls : Array Slot), L < 9 * i + 9 * n → 9 * i ≤ L → h2 D s.heap MA MB H locs → lwI cA MA MB x m0 → lv_has ls 4 [(0, .ref b), (1, .ref x), (2, .ref m0), (3, .int (nI (9 * i)))] → W p l e room_1 s m #[Value.ref b] below meth c H locs (27 + 27 * i) (23743 + 2178 * i) (lw_Z below #[Value.ref b] s) (F0 m 18 ls []) := by
  obtain ⟨hx, hb, hr, hml, hown, hts, hX, hbl, hlocks, hgv⟩ := id C0
  have hb : c.code = cL_law := hb
  have hbA : ¬ (fun q : Nat => s.heap.size ≤ q) b := Nat.not_le.mpr hbl
  intro n
  induction n with
  | zero =>
    intro i MA MB H locs ls h1 h2
    exact absurd h1 (by omega)
  | succ n ih =>
    intro i MA MB H locs ls hn hi0 hh hI hl
    refine lv_iload_n hx hb dL_law_18 rfl (lv_at hl 3 rfl) ?_
    refine lv_aload_n hx hb dL_law_19 rfl (lv_at hl 0 rfl) ?_
    refine va_slen hx hb hX hbl hbA hh.S dL_law_20 ?_
    refine lv_bipush (v := 9) hx hb dL_law_21 (by decide) ?_
    refine lv_isub hx hb dL_law_23 ?_
    refine bi_gt (tgt := 1480) hx hb dL_law_24 (by decide) (fun _ _ => ?_) (fun c_24 _ => ?_)
    · refine lv_iconst (v := 1) hx hb dL_law_1480 (by decide) ?_
      refine va_forget (fun q hq => hh.S.2.2 q hq) ?_
      refine W.widen (k := 600000) (n := 7302250) (by omega) (by omega) ?_
      exact lw_ret hx hb hr hlocks dL_law_1481
    have hi : 9 * i + 9 ≤ L := sub9 hL (by omega) c_24
    have hc : 27 + 27 * i + 27 ≤ 600000 := by omega
    have hs9 : 23743 + 2178 * i + 2178 ≤ 7302250 := by omega
    have kont : ∀ (MA1 MB1 : mp) (H1 : Heap) (locs1 : List Loc) (ls : Array Slot), lv_has ls 4 [(0, .ref b), (1, .ref x), (2, .ref m0), (3, .int (nI (9 * i)))] → h2 D s.heap MA1 MB1 H1 locs1 → lwI cA MA1 MB1 x m0 → W p l e room_1 s m #[Value.ref b] below meth c H1 locs1 (27 + 27 * i + 27) (23743 + 2178 * i + 2178) (lw_Z below #[Value.ref b] s) (F0 m 1474 ls []) := by
      intro MA1 MB1 H1 locs1 ls hl hh hI
      refine lv_iinc (v := nI (9 * (i + 1))) (lv' := [(3, .int (nI (9 * (i + 1)))), (0, .ref b), (1, .ref x), (2, .ref m0)]) hx hb dL_law_1474 hl (k := 3) rfl (nI_add (9 * i) 9) (by decide) rfl (fun ls hl => ?_)
      refine lv_goto (tgt := 18) hx hb dL_law_1477 (by decide) ?_
      exact ih (i + 1) MA1 MB1 H1 locs1 ls (by omega) (by omega) hh hI (lv_sub hl [1, 2, 3, 0] rfl)
    refine lv_aload_n hx hb dL_law_27 rfl (lv_at hl 0 rfl) ?_
    refine lv_iload_n hx hb dL_law_28 rfl (lv_at hl 3 rfl) ?_
    refine m_sldN (k := 9 * i) hx hb hX hbl hbA hh.S rfl (by omega) (by omega) dL_law_29 ?_
    refine lv_bipush (v := 31) hx hb dL_law_30 (by decide) ?_
    refine lv_iand hx hb dL_law_32 ?_
    generalize xs (9 * i) &&& 31 = z
    by_cases hz : z.toInt < 0 ∨ 18 < z.toInt
    · refine lv_tableOut (tgt := 1474) hx hb dL_law_33 hz (by decide) ?_
      refine W.widen (k := 27 + 27 * i + 27) (n := 23743 + 2178 * i + 2178) (by omega) (by omega) ?_
      exact kont _ _ _ _ _ hl hh hI
    rcases (show z.toInt = 0 ∨ z.toInt = 1 ∨ z.toInt = 2 ∨ z.toInt = 3 ∨ z.toInt = 4 ∨ z.toInt = 5 ∨ z.toInt = 6 ∨ z.toInt = 7 ∨ z.toInt = 8 ∨ z.toInt = 9 ∨ z.toInt = 10 ∨ z.toInt = 11 ∨ z.toInt = 12 ∨ z.toInt = 13 ∨ z.toInt = 14 ∨ z.toInt = 15 ∨ z.toInt = 16 ∨ z.toInt = 17 ∨ z.toInt = 18 by omega) with hk | hk | hk | hk | hk | hk | hk | hk | hk | hk | hk | hk | hk | hk | hk | hk | hk | hk | hk
    · refine lv_tableIn (tgt := 124) (off := 91) hx hb dL_law_33 (by rw [hk]; decide) (by rw [hk]; decide) (by rw [hk]; rfl) (by decide) ?_
      exact lw_c0 C0 hL hK hi hc hs9 hh hI hl kont
    · refine lv_tableIn (tgt := 217) (off := 184) hx hb dL_law_33 (by rw [hk]; decide) (by rw [hk]; decide) (by rw [hk]; rfl) (by decide) ?_
      exact lw_c1 C0 hL hK hi hc hs9 hh hI hl kont
    · refine lv_tableIn (tgt := 311) (off := 278) hx hb dL_law_33 (by rw [hk]; decide) (by rw [hk]; decide) (by rw [hk]; rfl) (by decide) ?_
      exact lw_c2 C0 hL hK hi hc hs9 hh hI hl kont
    · refine lv_tableIn (tgt := 404) (off := 371) hx hb dL_law_33 (by rw [hk]; decide) (by rw [hk]; decide) (by rw [hk]; rfl) (by decide) ?_
      exact lw_c3 C0 hL hK hi hc hs9 hh hI hl kont
    · refine lv_tableIn (tgt := 508) (off := 475) hx hb dL_law_33 (by rw [hk]; decide) (by rw [hk]; decide) (by rw [hk]; rfl) (by decide) ?_
      exact lw_c4 C0 hL hK hi hc hs9 hh hI hl kont
    · refine lv_tableIn (tgt := 572) (off := 539) hx hb dL_law_33 (by rw [hk]; decide) (by rw [hk]; decide) (by rw [hk]; rfl) (by decide) ?_
      exact lw_c5 C0 hL hK hi hc hs9 hh hI hl kont
    · refine lv_tableIn (tgt := 636) (off := 603) hx hb dL_law_33 (by rw [hk]; decide) (by rw [hk]; decide) (by rw [hk]; rfl) (by decide) ?_
      exact lw_c6 C0 hL hK hi hc hs9 hh hI hl kont
    · refine lv_tableIn (tgt := 670) (off := 637) hx hb dL_law_33 (by rw [hk]; decide) (by rw [hk]; decide) (by rw [hk]; rfl) (by decide) ?_
      exact lw_c7 C0 hL hK hi hc hs9 hh hI hl kont
    · refine lv_tableIn (tgt := 733) (off := 700) hx hb dL_law_33 (by rw [hk]; decide) (by rw [hk]; decide) (by rw [hk]; rfl) (by decide) ?_
      exact lw_c8 C0 hL hK hi hc hs9 hh hI hl kont
    · refine lv_tableIn (tgt := 797) (off := 764) hx hb dL_law_33 (by rw [hk]; decide) (by rw [hk]; decide) (by rw [hk]; rfl) (by decide) ?_
      exact lw_c9 C0 hL hK hi hc hs9 hh hI hl kont
    · refine lv_tableIn (tgt := 900) (off := 867) hx hb dL_law_33 (by rw [hk]; decide) (by rw [hk]; decide) (by rw [hk]; rfl) (by decide) ?_
      exact lw_c10 C0 hL hK hi hc hs9 hh hI hl kont
    · refine lv_tableIn (tgt := 1004) (off := 971) hx hb dL_law_33 (by rw [hk]; decide) (by rw [hk]; decide) (by rw [hk]; rfl) (by decide) ?_
      exact lw_c11 C0 hL hK hi hc hs9 hh hI hl kont
    · refine lv_tableIn (tgt := 1083) (off := 1050) hx hb dL_law_33 (by rw [hk]; decide) (by rw [hk]; decide) (by rw [hk]; rfl) (by decide) ?_
      exact lw_c12 C0 hL hK hi hc hs9 hh hI hl kont
    · refine lv_tableIn (tgt := 1142) (off := 1109) hx hb dL_law_33 (by rw [hk]; decide) (by rw [hk]; decide) (by rw [hk]; rfl) (by decide) ?_
      exact lw_c13 C0 hL hK hi hc hs9 hh hI hl kont
    · refine lv_tableIn (tgt := 1185) (off := 1152) hx hb dL_law_33 (by rw [hk]; decide) (by rw [hk]; decide) (by rw [hk]; rfl) (by decide) ?_
      exact lw_c14 C0 hL hK hi hc hs9 hh hI hl kont
    · refine lv_tableIn (tgt := 1360) (off := 1327) hx hb dL_law_33 (by rw [hk]; decide) (by rw [hk]; decide) (by rw [hk]; rfl) (by decide) ?_
      exact lw_c15 C0 hL hK hi hc hs9 hh hI hl kont
    · refine lv_tableIn (tgt := 1423) (off := 1390) hx hb dL_law_33 (by rw [hk]; decide) (by rw [hk]; decide) (by rw [hk]; rfl) (by decide) ?_
      exact lw_c16 C0 hL hK hi hc hs9 hh hI hl kont
    · refine lv_tableIn (tgt := 1436) (off := 1403) hx hb dL_law_33 (by rw [hk]; decide) (by rw [hk]; decide) (by rw [hk]; rfl) (by decide) ?_
      exact lw_c17 C0 hL hK hi hc hs9 hh hI hl kont
    · refine lv_tableIn (tgt := 1460) (off := 1427) hx hb dL_law_33 (by rw [hk]; decide) (by rw [hk]; decide) (by rw [hk]; rfl) (by decide) ?_
      exact lw_c18 C0 hL hK hi hc hs9 hh hI hl kont
theorem ok_0 : okB 1 0 false (fun _ => 0) := ⟨by decide, fun _ => Nat.zero_le _, by decide, fun h => absurd h (by decide), fun h => by simp at h, fun h => absurd h (by decide)⟩
theorem BI_0 : BI 1 0 0 false (fun _ _ => 0) (fun _ => 0) (fun _ => 0) := ⟨by decide, fun _ _ => ok_0, fun _ => Nat.zero_le _, fun j hj => absurd hj (Nat.not_lt_zero _)⟩
theorem lwI_0 {cA : Nat → ClassId} {MA MB : mp} {x m0 : Nat} (hc : ∃ J P TG GO SG BG TM SM PH WM MT WF, MA x = some (.inr (8, [.ref J, .ref P])) ∧ jdW cA MA J TG GO SG BG TM SM ∧ pw cA MA P J PH WM MT WF 1 0 0 false (fun _ => 0) (fun _ => 0) (fun _ => 0) (fun _ => false)) (hr : ∃ fb ra wn ov th it td hp bd fl v fh fb2 ff, rfA cA MB m0 fb ra wn ov th it td hp bd fl v fh fb2 ff ∧ v 8 = .int (nI 1) ∧ v 9 = .int (bI false) ∧ v 10 = .int (nI 0) ∧ v 11 = .int (nI 0) ∧ (∀ k, k < 3 → fh k = lN 0) ∧ fb2 0 = lN 0 ∧ ff 0 = nI 0) : lwI cA MA MB x m0 := by
  obtain ⟨fb, ra, wn, ov, th, it, td, hp, bd, fl, v, fh, fb2, ff, h1, h2, h3, h4, h5, h6, h7, h8⟩ := hr
  refine ⟨1, 0, 0, false, fun _ _ => 0, fun _ => 0, fun _ => 0, fun _ => false, BI_0, hc, fb, ra, wn, ov, th, it, td, hp, bd, fl, v, fh, fb2, ff, h1, h2, h3, h4, h5, fun j hj k hk => ?_, fun j hj => ?_, fun j hj => ?_⟩
  · rw [show j = 0 by omega, Nat.mul_zero, Nat.zero_add]; exact h6 k hk
  · rw [show j = 0 by omega]; exact h7
  · rw [show j = 0 by omega]; exact h8
/-- the tables' classes, and the nest's words, at the start -/
theorem kk_0 {s : State} {b : Nat} (hts : ∀ w ∈ lw_tbl, w.before #[Value.ref b] s = true) : ∃ (D : va_G) (cA : Nat → ClassId), kk D cA s := by
  obtain ⟨c0, i0, k0⟩ := u_known (C := RX0) (T := TX0) (N := 1) (n := 1) hts inX0 (hts (.instantiable RX0 1) (by decide +kernel))
  obtain ⟨c1, i1, k1⟩ := u_known (C := RX1) (T := TX1) (N := 1) (n := 1) hts inX1 (hts (.instantiable RX1 1) (by decide +kernel))
  obtain ⟨c2, i2, k2⟩ := u_known (C := RX2) (T := TX2) (N := 5) (n := 5) hts inX2 (hts (.instantiable RX2 5) (by decide +kernel))
  obtain ⟨c3, i3, k3⟩ := u_known (C := RX3) (T := TX3) (N := 2) (n := 2) hts inX3 (hts (.instantiable RX3 2) (by decide +kernel))
  obtain ⟨c4, i4, k4⟩ := u_known (C := RX4) (T := TX4) (N := 9) (n := 9) hts inX4 (hts (.instantiable RX4 9) (by decide +kernel))
  obtain ⟨c5, i5, k5⟩ := u_known (C := RX5) (T := TX5) (N := 1) (n := 1) hts inX5 (hts (.instantiable RX5 1) (by decide +kernel))
  obtain ⟨c6, i6, k6⟩ := u_known (C := RX6) (T := TX6) (N := 2) (n := 2) hts inX6 (hts (.instantiable RX6 2) (by decide +kernel))
  obtain ⟨c7, i7, k7⟩ := u_known (C := RX7) (T := TX7) (N := 1) (n := 1) hts inX7 (hts (.instantiable RX7 1) (by decide +kernel))
  obtain ⟨c8, i8, k8⟩ := u_known (C := RX8) (T := TX8) (N := 2) (n := 2) hts inX8 (hts (.instantiable RX8 2) (by decide +kernel))
  obtain ⟨c9, i9, k9⟩ := u_known (C := RX9) (T := TX9) (N := 18) (n := 18) hts inX9 (hts (.instantiable RX9 18) (by decide +kernel))
  obtain ⟨a0, q0, p0, e0, f0, g0⟩ := Cond.arrayClass_spec (hts (.arrayClass .long) (by decide +kernel))
  obtain ⟨a1, q1, p1, e1, f1, g1⟩ := Cond.arrayClass_spec (hts (.arrayClass .int) (by decide +kernel))
  obtain ⟨a2, q2, p2, e2, f2, g2⟩ := Cond.arrayClass_spec (hts (.arrayClass .boolean) (by decide +kernel))
  have o3 := hts (.arrayOver (.object "GoldHeaps$Sums")) (by decide +kernel)
  have o4 := hts (.arrayOver (.object "GoldHeaps$LostTable")) (by decide +kernel)
  obtain ⟨p3, a3, q3, d3, -, f3, g3, e3⟩ := Cond.arrayOver_spec o3
  obtain ⟨p4, a4, q4, d4, -, f4, g4, e4⟩ := Cond.arrayOver_spec o4
  refine ⟨(fun k => if k = 0 then c0 else if k = 1 then c1 else if k = 2 then c2 else if k = 3 then c3 else if k = 4 then c4 else if k = 5 then c5 else if k = 6 then c6 else if k = 7 then c7 else if k = 8 then c8 else c9, fun k => if k = 0 then i0 else if k = 1 then i1 else if k = 2 then i2 else if k = 3 then i3 else if k = 4 then i4 else if k = 5 then i5 else if k = 6 then i6 else if k = 7 then i7 else if k = 8 then i8 else i9), fun k => if k = 0 then a0 else if k = 1 then a1 else if k = 2 then a2 else if k = 3 then a3 else a4, ⟨fun k q hq => ?_, fun k q hq => ?_⟩, ?_, va_AO.of o3, va_AO.of o4⟩
  · match k, hq with
    | 0, hq => cases hq; exact k0
    | 1, hq => cases hq; exact k1
    | 2, hq => cases hq; exact k2
    | 3, hq => cases hq; exact k3
    | 4, hq => cases hq; exact k4
    | 5, hq => cases hq; exact k5
    | 6, hq => cases hq; exact k6
    | 7, hq => cases hq; exact k7
    | 8, hq => cases hq; exact k8
    | 9, hq => cases hq; exact k9
    | k + 10, hq => simp [vwCl] at hq
  · match k, hq with
    | 0, hq => cases hq; exact ⟨fun n z => ⟨fun k h => (by cases h), q0, f0, p0, g0⟩, e0⟩
    | 1, hq => cases hq; exact ⟨fun n z => ⟨fun k h => (by cases h), q1, f1, p1, g1⟩, e1⟩
    | 2, hq => cases hq; exact ⟨fun n z => ⟨fun k h => (by cases h), q2, f2, p2, g2⟩, e2⟩
    | 3, hq => cases hq; exact ⟨fun n z => ⟨fun k h => (by cases h), q3, f3, p3, g3⟩, q3, p3, f3, g3, d3, e3⟩
    | 4, hq => cases hq; exact ⟨fun n z => ⟨fun k h => (by cases h), q4, f4, p4, g4⟩, q4, p4, f4, g4, d4, e4⟩
    | k + 5, hq => simp [tysA] at hq
  · unfold nest
    refine List.forall_mem_cons.mpr ⟨va_Nw.of rfl (hts _ (by decide +kernel)), ?_⟩
    refine List.forall_mem_cons.mpr ⟨va_Nw.of rfl (hts _ (by decide +kernel)), ?_⟩
    refine List.forall_mem_cons.mpr ⟨va_Nw.of rfl (hts _ (by decide +kernel)), ?_⟩
    refine List.forall_mem_cons.mpr ⟨va_Nw.of rfl (hts _ (by decide +kernel)), ?_⟩
    refine List.forall_mem_cons.mpr ⟨va_Nw.of rfl (hts _ (by decide +kernel)), ?_⟩
    refine List.forall_mem_cons.mpr ⟨va_Nw.of rfl (hts _ (by decide +kernel)), ?_⟩
    refine List.forall_mem_cons.mpr ⟨va_Nw.of rfl (hts _ (by decide +kernel)), ?_⟩
    refine List.forall_mem_cons.mpr ⟨va_Nw.of rfl (hts _ (by decide +kernel)), ?_⟩
    refine List.forall_mem_cons.mpr ⟨va_Nw.of rfl (hts _ (by decide +kernel)), ?_⟩
    refine List.forall_mem_cons.mpr ⟨va_Nw.of rfl (hts _ (by decide +kernel)), ?_⟩
    refine List.forall_mem_cons.mpr ⟨va_Nw.of rfl (hts _ (by decide +kernel)), ?_⟩
    refine List.forall_mem_cons.mpr ⟨va_Nw.of rfl (hts _ (by decide +kernel)), ?_⟩
    exact fun _ h => absurd h List.not_mem_nil
set_option maxHeartbeats 2000000 in
set_option maxRecDepth 100000 in
/-- THE LAW, from its entry -/
theorem whole_start {p : Program} {e : Env} {s : State} {m : MethodId} {below : List Frame} {meth : Method} {c : Code} (l : Launch) {b L : Nat} {xs : Nat → Int32} (hL : L ≤ 4608) (C0 : lw_At p s m meth c b L xs) : W p l e room_1 s m #[Value.ref b] below meth c s.heap [] 0 0 (lw_Z below #[Value.ref b] s) (entryFrame m ([Value.ref b] : List Value).toArray 4) := by
  obtain ⟨hx, hb, hr, hml, hown, hts, hX, hbl, hlocks, hgv⟩ := id C0
  have hb : c.code = cL_law := hb
  have hown : s.vm.findClass RL = some m.cls := hown
  have htl : ∀ w ∈ wsL_law, w.before #[Value.ref b] s = true := fun w h => hts w (wsL_law_in w h)
  obtain ⟨D, cA, hK⟩ := kk_0 hts
  have hw0 : hw D no s.heap no s.heap [] := hw.rf (fun _ _ h => by cases h)
  have hl := lv_entry ([.ref b]) (n := 4) (Nat.le_of_ble_eq_true rfl)
  rw [lg_entry_eq]
  generalize (lg_sl ([.ref b]) ++ List.replicate (4 - (lg_sl ([.ref b])).length) Slot.unset).toArray = ls at hl ⊢
  have hl : lv_has ls 4 [(0, .ref b)] := hl
  have cl_7 := htl (.classLink RL 7 RX8) (List.mem_of_getElem? (i := 0) rfl)
  have ins_8 := htl (.instantiable RX8 2) (List.mem_of_getElem? (i := 1) rfl)
  have ini_8 := htl (.initialized RX8) (List.mem_of_getElem? (i := 2) rfl)
  have cl_10 := htl (.classLink RL 10 RX9) (List.mem_of_getElem? (i := 3) rfl)
  have ins_9 := htl (.instantiable RX9 18) (List.mem_of_getElem? (i := 4) rfl)
  have ini_9 := htl (.initialized RX9) (List.mem_of_getElem? (i := 5) rfl)
  have ml_9 := htl (.methodLink RL 9 yX8_init) (List.mem_of_getElem? (i := 7) rfl)
  have im_8 := htl (.instanceMethod yX8_init) (List.mem_of_getElem? (i := 8) rfl)
  have ml_12 := hts (.methodLink RL 12 yX9_init) (by decide +kernel)
  have im_9 := hts (.instanceMethod yX9_init) (by decide +kernel)
  refine m_new (ci := 8) (fs := [.null, .null]) (C := RX8) (T := TX8) (N := 2) hx hb hts inX8 tyX8 tyX8_ok hown cl_7 ins_8 ini_8 hK hw0 rfl (fun j hj => by rcases (show j = 0 ∨ j = 1 by omega) with rfl | rfl <;> rfl) (Nat.le_of_ble_eq_true rfl) (Nat.le_of_ble_eq_true rfl) dL_law_0 (fun x M1 H1 hq e1 hh => ?_)
  have hx0 : M1 x = some (.inr (8, [.null, .null])) := mu_at e1
  refine lv_dup hx hb dL_law_3 rfl ?_
  refine cmI (As := []) (rest := [.ref x]) (k_X8_init l D cA _ x hx0) ⟨hx, hb, hml, hown, htl⟩ (cwI 0 htl gL_law_X8_init rfl rfl rfl ini_8 ml_9 im_8 rfl (by decide +kernel) ⟨Nat.le_of_ble_eq_true rfl, Nat.le_of_ble_eq_true rfl⟩) hK hh rfl hl.1 rfl (Nat.le_of_ble_eq_true rfl) dL_law_4 ⟨Nat.le_of_ble_eq_true rfl, Nat.le_of_ble_eq_true rfl⟩ (fun v9 MA H1 locs1 hpost hh hz9 hk9 hn9 => ?_)
  obtain ⟨rfl, hcl, -⟩ := hpost
  refine W.eq (g2 := F0 m 7 ls [.ref x]) rfl ?_
  refine lv_astore_n (lv' := [(1, .ref x), (0, .ref b)]) hx hb dL_law_7 rfl hl (by decide) rfl (fun ls hl => ?_)
  refine m_new (ci := 9) (fs := [.null, .null, .int 0, .null, .null, .null, .null, .null, .int 0, .int 0, .int 0, .int 0, .null, .null, .null, .long 0, .int 0, .int 0]) (C := RX9) (T := TX9) (N := 18) hx hb hts inX9 tyX9 tyX9_ok hown cl_10 ins_9 ini_9 hK hh rfl (fun j hj => by rcases (show j = 0 ∨ j = 1 ∨ j = 2 ∨ j = 3 ∨ j = 4 ∨ j = 5 ∨ j = 6 ∨ j = 7 ∨ j = 8 ∨ j = 9 ∨ j = 10 ∨ j = 11 ∨ j = 12 ∨ j = 13 ∨ j = 14 ∨ j = 15 ∨ j = 16 ∨ j = 17 by omega) with rfl | rfl | rfl | rfl | rfl | rfl | rfl | rfl | rfl | rfl | rfl | rfl | rfl | rfl | rfl | rfl | rfl | rfl <;> rfl) (Nat.le_of_ble_eq_true rfl) (Nat.le_of_ble_eq_true rfl) dL_law_8 (fun m0 M2 H2 hq2 e2 hh2 => ?_)
  have hh := h2.sp hh2 e2 (by rw [hq2]; exact hh.1.fresh)
  refine lv_dup hx hb dL_law_11 rfl ?_
  refine cmI (As := []) (rest := [.ref m0]) (k_X9_init l D cA _ m0 (mu_eq _ _ _)) ⟨hx, hb, hml, hown, htl⟩ (cwI 0 htl gL_law_X9_init rfl rfl rfl ini_9 ml_12 im_9 rfl (by decide +kernel) ⟨Nat.le_of_ble_eq_true rfl, Nat.le_of_ble_eq_true rfl⟩) hK hh.2.1 rfl hl.1 rfl (Nat.le_of_ble_eq_true rfl) dL_law_12 ⟨Nat.le_of_ble_eq_true rfl, Nat.le_of_ble_eq_true rfl⟩ (fun v9 MB H3 locs3 hpost hh3 hz9 hk9 hn9 => ?_)
  obtain ⟨rfl, hrf, -⟩ := hpost
  have hh := hh.B hh3 hk9 hn9
  refine W.eq (g2 := F0 m 15 ls [.ref m0]) rfl ?_
  refine W.widen (k := 27 + 27 * 0) (n := 23743 + 2178 * 0) (Nat.le_of_ble_eq_true rfl) (Nat.le_of_ble_eq_true rfl) ?_
  refine lv_astore_n (lv' := [(2, .ref m0), (1, .ref x), (0, .ref b)]) hx hb dL_law_15 rfl hl (by decide) rfl (fun ls hl => ?_)
  refine lv_iconst (v := nI (9 * 0)) hx hb dL_law_16 (by decide) ?_
  refine lv_istore_n (lv' := [(3, .int (nI (9 * 0))), (2, .ref m0), (1, .ref x), (0, .ref b)]) hx hb dL_law_17 rfl hl (by decide) rfl (fun ls hl => ?_)
  exact lw_loop C0 hL hK (L + 1) 0 MA MB H3 locs3 ls (by omega) (by omega) hh (lwI_0 hcl hrf) (lv_sub hl [3, 2, 1, 0] rfl)
