set_option maxHeartbeats 2000000 in
set_option maxRecDepth 100000 in
theorem lw_c7 {p : Program} {l : Launch} {e : Env} {s : State} {m : MethodId} {below : List Frame} {meth : Method} {c : Code} {b L : Nat} {xs : Nat → Int32} {D : va_G} {cA : Nat → ClassId} {x m0 : Nat} {Q : State → Prop} (C0 : lw_At p s m meth c b L xs) (hL : L ≤ 4608) (hK : kk D cA s) {i cells slots : Nat} {MA MB : mp} {H : Heap} {locs : List Loc} {ls : Array Slot} (hi : 9 * i + 9 ≤ L) (hc : cells + 27 ≤ 600000) (hs9 : slots + 2178 ≤ 7302250) (hh : h2 D s.heap MA MB H locs) (hI : lwI cA MA MB x m0) (hl : lv_has ls 4 [(0, .ref b), (1, .ref x), (2, .ref m0), (3, .int (nI (9 * i)))]) (kont : ∀ (MA1 MB1 : mp) (H1 : Heap) (locs1 : List Loc) (ls : Array Slot), lv_has ls 4 [(0, .ref b), (1, .ref x), (2, .ref m0), (3, .int (nI (9 * i)))] → h2 D s.heap MA1 MB1 H1 locs1 → lwI cA MA1 MB1 x m0 → W p l e room_1 s m #[Value.ref b] below meth c H1 locs1 (cells + 27) (slots + 2178) Q (F0 m 1474 ls [])) : W p l e room_1 s m #[Value.ref b] below meth c H locs cells slots Q (F0 m 670 ls []) := by
  obtain ⟨hx, hb, hr, hml, hown, hts, hX, hbl, hlocks, hgv⟩ := C0
  have hb : c.code = cL_law := hb
  have hown : s.vm.findClass RL = some m.cls := hown
  have hbA : ¬ (fun q : Nat => s.heap.size ≤ q) b := Nat.not_le.mpr hbl
  have htl : ∀ w ∈ wsL_law, w.before #[Value.ref b] s = true := fun w h => hts w (wsL_law_in w h)
  obtain ⟨g, t, mv, mi, hs, wh, ma, fa, hBI, hcl, hrf⟩ := hI
  obtain ⟨J, P, TG, GO, SG, BG, TM, SM, PH, WM, MT, WF, hx0, hJD, hpw⟩ := id hcl
  obtain ⟨fb, ra, wn, ov, th, it, td, hp, bd, fl, v, fh, fb2, ff, hA, hv8, hv9, hv10, hv11, hfh, hfb, hff⟩ := id hrf
  obtain ⟨hR, ⟨hu0, hu1, hu3, hu4, hu5, hu6, hu7, hu12, hu13, hu14⟩, ⟨f, hfb0, hfib⟩, ⟨f0, hrw⟩, hRT, ⟨fd, htd⟩, hhp, hbd, hfl⟩ := id hA
  refine lv_aload_n hx hb dL_law_670 rfl (lv_at hl 1 rfl) ?_
  refine lv_aload_n hx hb dL_law_671 rfl (lv_at hl 0 rfl) ?_
  refine lv_iload_n hx hb dL_law_672 rfl (lv_at hl 3 rfl) ?_
  refine lv_iconst (v := 1) hx hb dL_law_673 (by decide) ?_
  refine lv_iadd hx hb dL_law_674 ?_
  refine tpi (x' := nI (9 * i + 1)) (nI_add _ 1) ?_
  refine m_sldN (k := 9 * i + 1) hx hb hX hbl hbA hh.S rfl (by omega) (by omega) dL_law_675 ?_
  refine lv_aload_n hx hb dL_law_676 rfl (lv_at hl 0 rfl) ?_
  refine lv_iload_n hx hb dL_law_677 rfl (lv_at hl 3 rfl) ?_
  refine lv_iconst (v := 2) hx hb dL_law_678 (by decide) ?_
  refine lv_iadd hx hb dL_law_679 ?_
  refine tpi (x' := nI (9 * i + 2)) (nI_add _ 2) ?_
  refine m_sldN (k := 9 * i + 2) hx hb hX hbl hbA hh.S rfl (by omega) (by omega) dL_law_680 ?_
  refine lv_i2l hx hb dL_law_681 rfl ?_
  refine lv_bipush (v := 32) hx hb dL_law_682 (by decide) ?_
  refine lv_lshl hx hb dL_law_684 rfl ?_
  refine lv_aload_n hx hb dL_law_685 rfl (lv_at hl 0 rfl) ?_
  refine lv_iload_n hx hb dL_law_686 rfl (lv_at hl 3 rfl) ?_
  refine lv_iconst (v := 3) hx hb dL_law_687 (by decide) ?_
  refine lv_iadd hx hb dL_law_688 ?_
  refine tpi (x' := nI (9 * i + 3)) (nI_add _ 3) ?_
  refine m_sldN (k := 9 * i + 3) hx hb hX hbl hbA hh.S rfl (by omega) (by omega) dL_law_689 ?_
  refine lv_i2l hx hb dL_law_690 rfl ?_
  refine lv_ldc2 hx hb hown (htl _ wl_cst) dL_law_691 ?_
  refine lv_land hx hb dL_law_694 ?_
  refine lv_lor hx hb dL_law_695 ?_
  refine tpl (x' := lgV (xs (9 * i + 2)) (xs (9 * i + 3))) (rfl) ?_
  refine cmV (As := [.int (xs (9 * i + 1)), .long (lgV (xs (9 * i + 2)) (xs (9 * i + 3)))]) (rest := []) (k_X8_digits l D cA MA x J P TG GO SG BG TM SM (xs (9 * i + 1)) (lgV (xs (9 * i + 2)) (xs (9 * i + 3))) hx0 hJD.1 hJD.2.1 hJD.2.2.1) ⟨hx, hb, hml, hown, htl⟩ (cwV 2 htl gL_law_X8_digits rfl rfl rfl (by decide +kernel) ⟨Nat.le_of_ble_eq_true rfl, Nat.le_of_ble_eq_true rfl⟩) hK hh.1 hx0 rfl rfl hl.1 rfl (Nat.le_of_ble_eq_true rfl) dL_law_696 ⟨by show _ ≤ 600000; omega, by show _ ≤ 7302250; omega⟩ (fun v9 MA1 H1 locs1 hpost hh1 hz9 hk9 hn9 => ?_)
  have hh := hh.A hh1 hk9 hn9
  obtain ⟨rfl, hW1, hkc⟩ := hpost
  have hcl := cl_S hx0 hJD hpw hW1 hkc
  refine W.widen (k := cells + 27) (n := slots + 2178) (by omega) (by omega) ?_
  refine W.eq (g2 := F0 m 699 ls [.int (diV (xs (9 * i + 1)) (lgV (xs (9 * i + 2)) (xs (9 * i + 3))))]) rfl ?_
  refine lv_aload_n hx hb dL_law_699 rfl (lv_at hl 2 rfl) ?_
  refine lv_aload_n hx hb dL_law_700 rfl (lv_at hl 0 rfl) ?_
  refine lv_iload_n hx hb dL_law_701 rfl (lv_at hl 3 rfl) ?_
  refine lv_iconst (v := 1) hx hb dL_law_702 (by decide) ?_
  refine lv_iadd hx hb dL_law_703 ?_
  refine tpi (x' := nI (9 * i + 1)) (nI_add _ 1) ?_
  refine m_sldN (k := 9 * i + 1) hx hb hX hbl hbA hh.S rfl (by omega) (by omega) dL_law_704 ?_
  refine lv_aload_n hx hb dL_law_705 rfl (lv_at hl 0 rfl) ?_
  refine lv_iload_n hx hb dL_law_706 rfl (lv_at hl 3 rfl) ?_
  refine lv_iconst (v := 2) hx hb dL_law_707 (by decide) ?_
  refine lv_iadd hx hb dL_law_708 ?_
  refine tpi (x' := nI (9 * i + 2)) (nI_add _ 2) ?_
  refine m_sldN (k := 9 * i + 2) hx hb hX hbl hbA hh.S rfl (by omega) (by omega) dL_law_709 ?_
  refine lv_i2l hx hb dL_law_710 rfl ?_
  refine lv_bipush (v := 32) hx hb dL_law_711 (by decide) ?_
  refine lv_lshl hx hb dL_law_713 rfl ?_
  refine lv_aload_n hx hb dL_law_714 rfl (lv_at hl 0 rfl) ?_
  refine lv_iload_n hx hb dL_law_715 rfl (lv_at hl 3 rfl) ?_
  refine lv_iconst (v := 3) hx hb dL_law_716 (by decide) ?_
  refine lv_iadd hx hb dL_law_717 ?_
  refine tpi (x' := nI (9 * i + 3)) (nI_add _ 3) ?_
  refine m_sldN (k := 9 * i + 3) hx hb hX hbl hbA hh.S rfl (by omega) (by omega) dL_law_718 ?_
  refine lv_i2l hx hb dL_law_719 rfl ?_
  refine lv_ldc2 hx hb hown (htl _ wl_cst) dL_law_720 ?_
  refine lv_land hx hb dL_law_723 ?_
  refine lv_lor hx hb dL_law_724 ?_
  refine tpl (x' := lgV (xs (9 * i + 2)) (xs (9 * i + 3))) (rfl) ?_
  refine cmV (As := [.int (xs (9 * i + 1)), .long (lgV (xs (9 * i + 2)) (xs (9 * i + 3)))]) (rest := [.int (diV (xs (9 * i + 1)) (lgV (xs (9 * i + 2)) (xs (9 * i + 3))))]) (k_X9_digits l D cA MB m0 v ra f0 (xs (9 * i + 1)) (lgV (xs (9 * i + 2)) (xs (9 * i + 3))) hR hu1 hrw) ⟨hx, hb, hml, hown, htl⟩ (cwV 2 htl gL_law_X9_digits rfl rfl rfl (by decide +kernel) ⟨Nat.le_of_ble_eq_true rfl, Nat.le_of_ble_eq_true rfl⟩) hK hh.2.1 hR rfl rfl hl.1 rfl (Nat.le_of_ble_eq_true rfl) dL_law_725 ⟨by show _ ≤ 600000; omega, by show _ ≤ 7302250; omega⟩ (fun v9 MB1 H1 locs1 hpost hh1 hz9 hk9 hn9 => ?_)
  have hh := hh.B hh1 hk9 hn9
  obtain ⟨rfl, hscr⟩ := hpost
  obtain ⟨v1, hA1, hag⟩ := hA.scr hscr
  have hrf := rf_ag hA1 hag hv8 hv9 hv10 hv11 hfh hfb hff
  refine W.eq (g2 := F0 m 728 ls [.int (diV (xs (9 * i + 1)) (lgV (xs (9 * i + 2)) (xs (9 * i + 3)))), .int (diV (xs (9 * i + 1)) (lgV (xs (9 * i + 2)) (xs (9 * i + 3))))]) rfl ?_
  refine bi_eq (tgt := 1474) hx hb dL_law_728 (by decide) (fun c_728 n_728 => ?_) (fun c_728 n_728 => ?_)
  · skip
    exact kont _ _ _ _ _ hl hh ⟨g, t, mv, mi, hs, wh, ma, fa, hBI, hcl, hrf⟩
  · exact absurd rfl c_728
set_option maxHeartbeats 2000000 in
set_option maxRecDepth 100000 in
theorem lw_c8 {p : Program} {l : Launch} {e : Env} {s : State} {m : MethodId} {below : List Frame} {meth : Method} {c : Code} {b L : Nat} {xs : Nat → Int32} {D : va_G} {cA : Nat → ClassId} {x m0 : Nat} {Q : State → Prop} (C0 : lw_At p s m meth c b L xs) (hL : L ≤ 4608) (hK : kk D cA s) {i cells slots : Nat} {MA MB : mp} {H : Heap} {locs : List Loc} {ls : Array Slot} (hi : 9 * i + 9 ≤ L) (hc : cells + 27 ≤ 600000) (hs9 : slots + 2178 ≤ 7302250) (hh : h2 D s.heap MA MB H locs) (hI : lwI cA MA MB x m0) (hl : lv_has ls 4 [(0, .ref b), (1, .ref x), (2, .ref m0), (3, .int (nI (9 * i)))]) (kont : ∀ (MA1 MB1 : mp) (H1 : Heap) (locs1 : List Loc) (ls : Array Slot), lv_has ls 4 [(0, .ref b), (1, .ref x), (2, .ref m0), (3, .int (nI (9 * i)))] → h2 D s.heap MA1 MB1 H1 locs1 → lwI cA MA1 MB1 x m0 → W p l e room_1 s m #[Value.ref b] below meth c H1 locs1 (cells + 27) (slots + 2178) Q (F0 m 1474 ls [])) : W p l e room_1 s m #[Value.ref b] below meth c H locs cells slots Q (F0 m 733 ls []) := by
  obtain ⟨hx, hb, hr, hml, hown, hts, hX, hbl, hlocks, hgv⟩ := C0
  have hb : c.code = cL_law := hb
  have hown : s.vm.findClass RL = some m.cls := hown
  have hbA : ¬ (fun q : Nat => s.heap.size ≤ q) b := Nat.not_le.mpr hbl
  have htl : ∀ w ∈ wsL_law, w.before #[Value.ref b] s = true := fun w h => hts w (wsL_law_in w h)
  obtain ⟨g, t, mv, mi, hs, wh, ma, fa, hBI, hcl, hrf⟩ := hI
  obtain ⟨J, P, TG, GO, SG, BG, TM, SM, PH, WM, MT, WF, hx0, hJD, hpw⟩ := id hcl
  obtain ⟨fb, ra, wn, ov, th, it, td, hp, bd, fl, v, fh, fb2, ff, hA, hv8, hv9, hv10, hv11, hfh, hfb, hff⟩ := id hrf
  obtain ⟨hR, ⟨hu0, hu1, hu3, hu4, hu5, hu6, hu7, hu12, hu13, hu14⟩, ⟨f, hfb0, hfib⟩, ⟨f0, hrw⟩, hRT, ⟨fd, htd⟩, hhp, hbd, hfl⟩ := id hA
  refine lv_aload_n hx hb dL_law_733 rfl (lv_at hl 1 rfl) ?_
  refine lv_aload_n hx hb dL_law_734 rfl (lv_at hl 0 rfl) ?_
  refine lv_iload_n hx hb dL_law_735 rfl (lv_at hl 3 rfl) ?_
  refine lv_iconst (v := 1) hx hb dL_law_736 (by decide) ?_
  refine lv_iadd hx hb dL_law_737 ?_
  refine tpi (x' := nI (9 * i + 1)) (nI_add _ 1) ?_
  refine m_sldN (k := 9 * i + 1) hx hb hX hbl hbA hh.S rfl (by omega) (by omega) dL_law_738 ?_
  refine lv_aload_n hx hb dL_law_739 rfl (lv_at hl 0 rfl) ?_
  refine lv_iload_n hx hb dL_law_740 rfl (lv_at hl 3 rfl) ?_
  refine lv_iconst (v := 2) hx hb dL_law_741 (by decide) ?_
  refine lv_iadd hx hb dL_law_742 ?_
  refine tpi (x' := nI (9 * i + 2)) (nI_add _ 2) ?_
  refine m_sldN (k := 9 * i + 2) hx hb hX hbl hbA hh.S rfl (by omega) (by omega) dL_law_743 ?_
  refine lv_i2l hx hb dL_law_744 rfl ?_
  refine lv_bipush (v := 32) hx hb dL_law_745 (by decide) ?_
  refine lv_lshl hx hb dL_law_747 rfl ?_
  refine lv_aload_n hx hb dL_law_748 rfl (lv_at hl 0 rfl) ?_
  refine lv_iload_n hx hb dL_law_749 rfl (lv_at hl 3 rfl) ?_
  refine lv_iconst (v := 3) hx hb dL_law_750 (by decide) ?_
  refine lv_iadd hx hb dL_law_751 ?_
  refine tpi (x' := nI (9 * i + 3)) (nI_add _ 3) ?_
  refine m_sldN (k := 9 * i + 3) hx hb hX hbl hbA hh.S rfl (by omega) (by omega) dL_law_752 ?_
  refine lv_i2l hx hb dL_law_753 rfl ?_
  refine lv_ldc2 hx hb hown (htl _ wl_cst) dL_law_754 ?_
  refine lv_land hx hb dL_law_757 ?_
  refine lv_lor hx hb dL_law_758 ?_
  refine tpl (x' := lgV (xs (9 * i + 2)) (xs (9 * i + 3))) (rfl) ?_
  refine cmV (As := [.int (xs (9 * i + 1)), .long (lgV (xs (9 * i + 2)) (xs (9 * i + 3)))]) (rest := []) (k_X8_last l D cA MA x J P TG GO SG BG TM SM (xs (9 * i + 1)) (lgV (xs (9 * i + 2)) (xs (9 * i + 3))) hx0 hJD.1 hJD.2.1 hJD.2.2.1) ⟨hx, hb, hml, hown, htl⟩ (cwV 2 htl gL_law_X8_last rfl rfl rfl (by decide +kernel) ⟨Nat.le_of_ble_eq_true rfl, Nat.le_of_ble_eq_true rfl⟩) hK hh.1 hx0 rfl rfl hl.1 rfl (Nat.le_of_ble_eq_true rfl) dL_law_759 ⟨by show _ ≤ 600000; omega, by show _ ≤ 7302250; omega⟩ (fun v9 MA1 H1 locs1 hpost hh1 hz9 hk9 hn9 => ?_)
  have hh := hh.A hh1 hk9 hn9
  obtain ⟨rfl, hW1, hkc⟩ := hpost
  have hcl := cl_S hx0 hJD hpw hW1 hkc
  refine W.widen (k := cells + 27) (n := slots + 2178) (by omega) (by omega) ?_
  refine W.eq (g2 := F0 m 762 ls [.long (laV (xs (9 * i + 1)) (lgV (xs (9 * i + 2)) (xs (9 * i + 3))))]) rfl ?_
  refine lv_aload_n hx hb dL_law_762 rfl (lv_at hl 2 rfl) ?_
  refine lv_aload_n hx hb dL_law_763 rfl (lv_at hl 0 rfl) ?_
  refine lv_iload_n hx hb dL_law_764 rfl (lv_at hl 3 rfl) ?_
  refine lv_iconst (v := 1) hx hb dL_law_765 (by decide) ?_
  refine lv_iadd hx hb dL_law_766 ?_
  refine tpi (x' := nI (9 * i + 1)) (nI_add _ 1) ?_
  refine m_sldN (k := 9 * i + 1) hx hb hX hbl hbA hh.S rfl (by omega) (by omega) dL_law_767 ?_
  refine lv_aload_n hx hb dL_law_768 rfl (lv_at hl 0 rfl) ?_
  refine lv_iload_n hx hb dL_law_769 rfl (lv_at hl 3 rfl) ?_
  refine lv_iconst (v := 2) hx hb dL_law_770 (by decide) ?_
  refine lv_iadd hx hb dL_law_771 ?_
  refine tpi (x' := nI (9 * i + 2)) (nI_add _ 2) ?_
  refine m_sldN (k := 9 * i + 2) hx hb hX hbl hbA hh.S rfl (by omega) (by omega) dL_law_772 ?_
  refine lv_i2l hx hb dL_law_773 rfl ?_
  refine lv_bipush (v := 32) hx hb dL_law_774 (by decide) ?_
  refine lv_lshl hx hb dL_law_776 rfl ?_
  refine lv_aload_n hx hb dL_law_777 rfl (lv_at hl 0 rfl) ?_
  refine lv_iload_n hx hb dL_law_778 rfl (lv_at hl 3 rfl) ?_
  refine lv_iconst (v := 3) hx hb dL_law_779 (by decide) ?_
  refine lv_iadd hx hb dL_law_780 ?_
  refine tpi (x' := nI (9 * i + 3)) (nI_add _ 3) ?_
  refine m_sldN (k := 9 * i + 3) hx hb hX hbl hbA hh.S rfl (by omega) (by omega) dL_law_781 ?_
  refine lv_i2l hx hb dL_law_782 rfl ?_
  refine lv_ldc2 hx hb hown (htl _ wl_cst) dL_law_783 ?_
  refine lv_land hx hb dL_law_786 ?_
  refine lv_lor hx hb dL_law_787 ?_
  refine tpl (x' := lgV (xs (9 * i + 2)) (xs (9 * i + 3))) (rfl) ?_
  refine cmV (As := [.int (xs (9 * i + 1)), .long (lgV (xs (9 * i + 2)) (xs (9 * i + 3)))]) (rest := [.long (laV (xs (9 * i + 1)) (lgV (xs (9 * i + 2)) (xs (9 * i + 3))))]) (k_X9_last l D cA MB m0 v ra f0 (xs (9 * i + 1)) (lgV (xs (9 * i + 2)) (xs (9 * i + 3))) hR hu1 hrw) ⟨hx, hb, hml, hown, htl⟩ (cwV 2 htl gL_law_X9_last rfl rfl rfl (by decide +kernel) ⟨Nat.le_of_ble_eq_true rfl, Nat.le_of_ble_eq_true rfl⟩) hK hh.2.1 hR rfl rfl hl.1 rfl (Nat.le_of_ble_eq_true rfl) dL_law_788 ⟨by show _ ≤ 600000; omega, by show _ ≤ 7302250; omega⟩ (fun v9 MB1 H1 locs1 hpost hh1 hz9 hk9 hn9 => ?_)
  have hh := hh.B hh1 hk9 hn9
  obtain ⟨rfl, hscr⟩ := hpost
  obtain ⟨v1, hA1, hag⟩ := hA.scr hscr
  have hrf := rf_ag hA1 hag hv8 hv9 hv10 hv11 hfh hfb hff
  refine W.eq (g2 := F0 m 791 ls [.long (laV (xs (9 * i + 1)) (lgV (xs (9 * i + 2)) (xs (9 * i + 3)))), .long (laV (xs (9 * i + 1)) (lgV (xs (9 * i + 2)) (xs (9 * i + 3))))]) rfl ?_
  refine bl_eq (tgt := 1474) hx hb dL_law_791 dL_law_792 (by decide) (fun c_792 n_792 => ?_) (fun c_792 n_792 => ?_)
  · skip
    exact kont _ _ _ _ _ hl hh ⟨g, t, mv, mi, hs, wh, ma, fa, hBI, hcl, hrf⟩
  · exact absurd rfl c_792
set_option maxHeartbeats 2000000 in
set_option maxRecDepth 100000 in
theorem lw_c9 {p : Program} {l : Launch} {e : Env} {s : State} {m : MethodId} {below : List Frame} {meth : Method} {c : Code} {b L : Nat} {xs : Nat → Int32} {D : va_G} {cA : Nat → ClassId} {x m0 : Nat} {Q : State → Prop} (C0 : lw_At p s m meth c b L xs) (hL : L ≤ 4608) (hK : kk D cA s) {i cells slots : Nat} {MA MB : mp} {H : Heap} {locs : List Loc} {ls : Array Slot} (hi : 9 * i + 9 ≤ L) (hc : cells + 27 ≤ 600000) (hs9 : slots + 2178 ≤ 7302250) (hh : h2 D s.heap MA MB H locs) (hI : lwI cA MA MB x m0) (hl : lv_has ls 4 [(0, .ref b), (1, .ref x), (2, .ref m0), (3, .int (nI (9 * i)))]) (kont : ∀ (MA1 MB1 : mp) (H1 : Heap) (locs1 : List Loc) (ls : Array Slot), lv_has ls 4 [(0, .ref b), (1, .ref x), (2, .ref m0), (3, .int (nI (9 * i)))] → h2 D s.heap MA1 MB1 H1 locs1 → lwI cA MA1 MB1 x m0 → W p l e room_1 s m #[Value.ref b] below meth c H1 locs1 (cells + 27) (slots + 2178) Q (F0 m 1474 ls [])) : W p l e room_1 s m #[Value.ref b] below meth c H locs cells slots Q (F0 m 797 ls []) := by
  obtain ⟨hx, hb, hr, hml, hown, hts, hX, hbl, hlocks, hgv⟩ := C0
  have hb : c.code = cL_law := hb
  have hown : s.vm.findClass RL = some m.cls := hown
  have hbA : ¬ (fun q : Nat => s.heap.size ≤ q) b := Nat.not_le.mpr hbl
  have htl : ∀ w ∈ wsL_law, w.before #[Value.ref b] s = true := fun w h => hts w (wsL_law_in w h)
  obtain ⟨g, t, mv, mi, hs, wh, ma, fa, hBI, hcl, hrf⟩ := hI
  obtain ⟨J, P, TG, GO, SG, BG, TM, SM, PH, WM, MT, WF, hx0, hJD, hpw⟩ := id hcl
  obtain ⟨fb, ra, wn, ov, th, it, td, hp, bd, fl, v, fh, fb2, ff, hA, hv8, hv9, hv10, hv11, hfh, hfb, hff⟩ := id hrf
  obtain ⟨hR, ⟨hu0, hu1, hu3, hu4, hu5, hu6, hu7, hu12, hu13, hu14⟩, ⟨f, hfb0, hfib⟩, ⟨f0, hrw⟩, hRT, ⟨fd, htd⟩, hhp, hbd, hfl⟩ := id hA
  refine lv_aload_n hx hb dL_law_797 rfl (lv_at hl 1 rfl) ?_
  refine lv_aload_n hx hb dL_law_798 rfl (lv_at hl 0 rfl) ?_
  refine lv_iload_n hx hb dL_law_799 rfl (lv_at hl 3 rfl) ?_
  refine lv_iconst (v := 1) hx hb dL_law_800 (by decide) ?_
  refine lv_iadd hx hb dL_law_801 ?_
  refine tpi (x' := nI (9 * i + 1)) (nI_add _ 1) ?_
  refine m_sldN (k := 9 * i + 1) hx hb hX hbl hbA hh.S rfl (by omega) (by omega) dL_law_802 ?_
  refine lv_aload_n hx hb dL_law_803 rfl (lv_at hl 0 rfl) ?_
  refine lv_iload_n hx hb dL_law_804 rfl (lv_at hl 3 rfl) ?_
  refine lv_iconst (v := 2) hx hb dL_law_805 (by decide) ?_
  refine lv_iadd hx hb dL_law_806 ?_
  refine tpi (x' := nI (9 * i + 2)) (nI_add _ 2) ?_
  refine m_sldN (k := 9 * i + 2) hx hb hX hbl hbA hh.S rfl (by omega) (by omega) dL_law_807 ?_
  refine lv_i2l hx hb dL_law_808 rfl ?_
  refine lv_bipush (v := 32) hx hb dL_law_809 (by decide) ?_
  refine lv_lshl hx hb dL_law_811 rfl ?_
  refine lv_aload_n hx hb dL_law_812 rfl (lv_at hl 0 rfl) ?_
  refine lv_iload_n hx hb dL_law_813 rfl (lv_at hl 3 rfl) ?_
  refine lv_iconst (v := 3) hx hb dL_law_814 (by decide) ?_
  refine lv_iadd hx hb dL_law_815 ?_
  refine tpi (x' := nI (9 * i + 3)) (nI_add _ 3) ?_
  refine m_sldN (k := 9 * i + 3) hx hb hX hbl hbA hh.S rfl (by omega) (by omega) dL_law_816 ?_
  refine lv_i2l hx hb dL_law_817 rfl ?_
  refine lv_ldc2 hx hb hown (htl _ wl_cst) dL_law_818 ?_
  refine lv_land hx hb dL_law_821 ?_
  refine lv_lor hx hb dL_law_822 ?_
  refine tpl (x' := lgV (xs (9 * i + 2)) (xs (9 * i + 3))) (rfl) ?_
  refine lv_aload_n hx hb dL_law_823 rfl (lv_at hl 0 rfl) ?_
  refine lv_iload_n hx hb dL_law_824 rfl (lv_at hl 3 rfl) ?_
  refine lv_iconst (v := 4) hx hb dL_law_825 (by decide) ?_
  refine lv_iadd hx hb dL_law_826 ?_
  refine tpi (x' := nI (9 * i + 4)) (nI_add _ 4) ?_
  refine m_sldN (k := 9 * i + 4) hx hb hX hbl hbA hh.S rfl (by omega) (by omega) dL_law_827 ?_
  refine lv_i2l hx hb dL_law_828 rfl ?_
  refine lv_bipush (v := 32) hx hb dL_law_829 (by decide) ?_
  refine lv_lshl hx hb dL_law_831 rfl ?_
  refine lv_aload_n hx hb dL_law_832 rfl (lv_at hl 0 rfl) ?_
  refine lv_iload_n hx hb dL_law_833 rfl (lv_at hl 3 rfl) ?_
  refine lv_iconst (v := 5) hx hb dL_law_834 (by decide) ?_
  refine lv_iadd hx hb dL_law_835 ?_
  refine tpi (x' := nI (9 * i + 5)) (nI_add _ 5) ?_
  refine m_sldN (k := 9 * i + 5) hx hb hX hbl hbA hh.S rfl (by omega) (by omega) dL_law_836 ?_
  refine lv_i2l hx hb dL_law_837 rfl ?_
  refine lv_ldc2 hx hb hown (htl _ wl_cst) dL_law_838 ?_
  refine lv_land hx hb dL_law_841 ?_
  refine lv_lor hx hb dL_law_842 ?_
  refine tpl (x' := lgV (xs (9 * i + 4)) (xs (9 * i + 5))) (rfl) ?_
  refine cmV (As := [.int (xs (9 * i + 1)), .long (lgV (xs (9 * i + 2)) (xs (9 * i + 3))), .long (lgV (xs (9 * i + 4)) (xs (9 * i + 5)))]) (rest := []) (k_X8_times l D cA MA x J P TG GO SG BG TM SM (xs (9 * i + 1)) (lgV (xs (9 * i + 2)) (xs (9 * i + 3))) (lgV (xs (9 * i + 4)) (xs (9 * i + 5))) hx0 hJD.1 hJD.2.1 hJD.2.2.1) ⟨hx, hb, hml, hown, htl⟩ (cwV 3 htl gL_law_X8_times rfl rfl rfl (by decide +kernel) ⟨Nat.le_of_ble_eq_true rfl, Nat.le_of_ble_eq_true rfl⟩) hK hh.1 hx0 rfl rfl hl.1 rfl (Nat.le_of_ble_eq_true rfl) dL_law_843 ⟨by show _ ≤ 600000; omega, by show _ ≤ 7302250; omega⟩ (fun v9 MA1 H1 locs1 hpost hh1 hz9 hk9 hn9 => ?_)
  have hh := hh.A hh1 hk9 hn9
  obtain ⟨rfl, hW1, hkc⟩ := hpost
  have hcl := cl_S hx0 hJD hpw hW1 hkc
  refine W.widen (k := cells + 27) (n := slots + 2178) (by omega) (by omega) ?_
  refine W.eq (g2 := F0 m 846 ls [.int (tiV (xs (9 * i + 1)) (lgV (xs (9 * i + 2)) (xs (9 * i + 3))) (lgV (xs (9 * i + 4)) (xs (9 * i + 5))))]) rfl ?_
  refine lv_aload_n hx hb dL_law_846 rfl (lv_at hl 2 rfl) ?_
  refine lv_aload_n hx hb dL_law_847 rfl (lv_at hl 0 rfl) ?_
  refine lv_iload_n hx hb dL_law_848 rfl (lv_at hl 3 rfl) ?_
  refine lv_iconst (v := 1) hx hb dL_law_849 (by decide) ?_
  refine lv_iadd hx hb dL_law_850 ?_
  refine tpi (x' := nI (9 * i + 1)) (nI_add _ 1) ?_
  refine m_sldN (k := 9 * i + 1) hx hb hX hbl hbA hh.S rfl (by omega) (by omega) dL_law_851 ?_
  refine lv_aload_n hx hb dL_law_852 rfl (lv_at hl 0 rfl) ?_
  refine lv_iload_n hx hb dL_law_853 rfl (lv_at hl 3 rfl) ?_
  refine lv_iconst (v := 2) hx hb dL_law_854 (by decide) ?_
  refine lv_iadd hx hb dL_law_855 ?_
  refine tpi (x' := nI (9 * i + 2)) (nI_add _ 2) ?_
  refine m_sldN (k := 9 * i + 2) hx hb hX hbl hbA hh.S rfl (by omega) (by omega) dL_law_856 ?_
  refine lv_i2l hx hb dL_law_857 rfl ?_
  refine lv_bipush (v := 32) hx hb dL_law_858 (by decide) ?_
  refine lv_lshl hx hb dL_law_860 rfl ?_
  refine lv_aload_n hx hb dL_law_861 rfl (lv_at hl 0 rfl) ?_
  refine lv_iload_n hx hb dL_law_862 rfl (lv_at hl 3 rfl) ?_
  refine lv_iconst (v := 3) hx hb dL_law_863 (by decide) ?_
  refine lv_iadd hx hb dL_law_864 ?_
  refine tpi (x' := nI (9 * i + 3)) (nI_add _ 3) ?_
  refine m_sldN (k := 9 * i + 3) hx hb hX hbl hbA hh.S rfl (by omega) (by omega) dL_law_865 ?_
  refine lv_i2l hx hb dL_law_866 rfl ?_
  refine lv_ldc2 hx hb hown (htl _ wl_cst) dL_law_867 ?_
  refine lv_land hx hb dL_law_870 ?_
  refine lv_lor hx hb dL_law_871 ?_
  refine tpl (x' := lgV (xs (9 * i + 2)) (xs (9 * i + 3))) (rfl) ?_
  refine lv_aload_n hx hb dL_law_872 rfl (lv_at hl 0 rfl) ?_
  refine lv_iload_n hx hb dL_law_873 rfl (lv_at hl 3 rfl) ?_
  refine lv_iconst (v := 4) hx hb dL_law_874 (by decide) ?_
  refine lv_iadd hx hb dL_law_875 ?_
  refine tpi (x' := nI (9 * i + 4)) (nI_add _ 4) ?_
  refine m_sldN (k := 9 * i + 4) hx hb hX hbl hbA hh.S rfl (by omega) (by omega) dL_law_876 ?_
  refine lv_i2l hx hb dL_law_877 rfl ?_
  refine lv_bipush (v := 32) hx hb dL_law_878 (by decide) ?_
  refine lv_lshl hx hb dL_law_880 rfl ?_
  refine lv_aload_n hx hb dL_law_881 rfl (lv_at hl 0 rfl) ?_
  refine lv_iload_n hx hb dL_law_882 rfl (lv_at hl 3 rfl) ?_
  refine lv_iconst (v := 5) hx hb dL_law_883 (by decide) ?_
  refine lv_iadd hx hb dL_law_884 ?_
  refine tpi (x' := nI (9 * i + 5)) (nI_add _ 5) ?_
  refine m_sldN (k := 9 * i + 5) hx hb hX hbl hbA hh.S rfl (by omega) (by omega) dL_law_885 ?_
  refine lv_i2l hx hb dL_law_886 rfl ?_
  refine lv_ldc2 hx hb hown (htl _ wl_cst) dL_law_887 ?_
  refine lv_land hx hb dL_law_890 ?_
  refine lv_lor hx hb dL_law_891 ?_
  refine tpl (x' := lgV (xs (9 * i + 4)) (xs (9 * i + 5))) (rfl) ?_
  refine cmV (As := [.int (xs (9 * i + 1)), .long (lgV (xs (9 * i + 2)) (xs (9 * i + 3))), .long (lgV (xs (9 * i + 4)) (xs (9 * i + 5)))]) (rest := [.int (tiV (xs (9 * i + 1)) (lgV (xs (9 * i + 2)) (xs (9 * i + 3))) (lgV (xs (9 * i + 4)) (xs (9 * i + 5))))]) (k_X9_times l D cA MB m0 v ra f0 (xs (9 * i + 1)) (lgV (xs (9 * i + 2)) (xs (9 * i + 3))) (lgV (xs (9 * i + 4)) (xs (9 * i + 5))) hR hu1 hrw) ⟨hx, hb, hml, hown, htl⟩ (cwV 3 htl gL_law_X9_times rfl rfl rfl (by decide +kernel) ⟨Nat.le_of_ble_eq_true rfl, Nat.le_of_ble_eq_true rfl⟩) hK hh.2.1 hR rfl rfl hl.1 rfl (Nat.le_of_ble_eq_true rfl) dL_law_892 ⟨by show _ ≤ 600000; omega, by show _ ≤ 7302250; omega⟩ (fun v9 MB1 H1 locs1 hpost hh1 hz9 hk9 hn9 => ?_)
  have hh := hh.B hh1 hk9 hn9
  obtain ⟨rfl, hscr⟩ := hpost
  obtain ⟨v1, hA1, hag⟩ := hA.scr hscr
  have hrf := rf_ag hA1 hag hv8 hv9 hv10 hv11 hfh hfb hff
  refine W.eq (g2 := F0 m 895 ls [.int (tiV (xs (9 * i + 1)) (lgV (xs (9 * i + 2)) (xs (9 * i + 3))) (lgV (xs (9 * i + 4)) (xs (9 * i + 5)))), .int (tiV (xs (9 * i + 1)) (lgV (xs (9 * i + 2)) (xs (9 * i + 3))) (lgV (xs (9 * i + 4)) (xs (9 * i + 5))))]) rfl ?_
  refine bi_eq (tgt := 1474) hx hb dL_law_895 (by decide) (fun c_895 n_895 => ?_) (fun c_895 n_895 => ?_)
  · skip
    exact kont _ _ _ _ _ hl hh ⟨g, t, mv, mi, hs, wh, ma, fa, hBI, hcl, hrf⟩
  · exact absurd rfl c_895
set_option maxHeartbeats 2000000 in
set_option maxRecDepth 100000 in
theorem lw_c10 {p : Program} {l : Launch} {e : Env} {s : State} {m : MethodId} {below : List Frame} {meth : Method} {c : Code} {b L : Nat} {xs : Nat → Int32} {D : va_G} {cA : Nat → ClassId} {x m0 : Nat} {Q : State → Prop} (C0 : lw_At p s m meth c b L xs) (hL : L ≤ 4608) (hK : kk D cA s) {i cells slots : Nat} {MA MB : mp} {H : Heap} {locs : List Loc} {ls : Array Slot} (hi : 9 * i + 9 ≤ L) (hc : cells + 27 ≤ 600000) (hs9 : slots + 2178 ≤ 7302250) (hh : h2 D s.heap MA MB H locs) (hI : lwI cA MA MB x m0) (hl : lv_has ls 4 [(0, .ref b), (1, .ref x), (2, .ref m0), (3, .int (nI (9 * i)))]) (kont : ∀ (MA1 MB1 : mp) (H1 : Heap) (locs1 : List Loc) (ls : Array Slot), lv_has ls 4 [(0, .ref b), (1, .ref x), (2, .ref m0), (3, .int (nI (9 * i)))] → h2 D s.heap MA1 MB1 H1 locs1 → lwI cA MA1 MB1 x m0 → W p l e room_1 s m #[Value.ref b] below meth c H1 locs1 (cells + 27) (slots + 2178) Q (F0 m 1474 ls [])) : W p l e room_1 s m #[Value.ref b] below meth c H locs cells slots Q (F0 m 900 ls []) := by
  obtain ⟨hx, hb, hr, hml, hown, hts, hX, hbl, hlocks, hgv⟩ := C0
  have hb : c.code = cL_law := hb
  have hown : s.vm.findClass RL = some m.cls := hown
  have hbA : ¬ (fun q : Nat => s.heap.size ≤ q) b := Nat.not_le.mpr hbl
  have htl : ∀ w ∈ wsL_law, w.before #[Value.ref b] s = true := fun w h => hts w (wsL_law_in w h)
  obtain ⟨g, t, mv, mi, hs, wh, ma, fa, hBI, hcl, hrf⟩ := hI
  obtain ⟨J, P, TG, GO, SG, BG, TM, SM, PH, WM, MT, WF, hx0, hJD, hpw⟩ := id hcl
  obtain ⟨fb, ra, wn, ov, th, it, td, hp, bd, fl, v, fh, fb2, ff, hA, hv8, hv9, hv10, hv11, hfh, hfb, hff⟩ := id hrf
  obtain ⟨hR, ⟨hu0, hu1, hu3, hu4, hu5, hu6, hu7, hu12, hu13, hu14⟩, ⟨f, hfb0, hfib⟩, ⟨f0, hrw⟩, hRT, ⟨fd, htd⟩, hhp, hbd, hfl⟩ := id hA
  refine lv_aload_n hx hb dL_law_900 rfl (lv_at hl 1 rfl) ?_
  refine lv_aload_n hx hb dL_law_901 rfl (lv_at hl 0 rfl) ?_
  refine lv_iload_n hx hb dL_law_902 rfl (lv_at hl 3 rfl) ?_
  refine lv_iconst (v := 1) hx hb dL_law_903 (by decide) ?_
  refine lv_iadd hx hb dL_law_904 ?_
  refine tpi (x' := nI (9 * i + 1)) (nI_add _ 1) ?_
  refine m_sldN (k := 9 * i + 1) hx hb hX hbl hbA hh.S rfl (by omega) (by omega) dL_law_905 ?_
  refine lv_aload_n hx hb dL_law_906 rfl (lv_at hl 0 rfl) ?_
  refine lv_iload_n hx hb dL_law_907 rfl (lv_at hl 3 rfl) ?_
  refine lv_iconst (v := 2) hx hb dL_law_908 (by decide) ?_
  refine lv_iadd hx hb dL_law_909 ?_
  refine tpi (x' := nI (9 * i + 2)) (nI_add _ 2) ?_
  refine m_sldN (k := 9 * i + 2) hx hb hX hbl hbA hh.S rfl (by omega) (by omega) dL_law_910 ?_
  refine lv_i2l hx hb dL_law_911 rfl ?_
  refine lv_bipush (v := 32) hx hb dL_law_912 (by decide) ?_
  refine lv_lshl hx hb dL_law_914 rfl ?_
  refine lv_aload_n hx hb dL_law_915 rfl (lv_at hl 0 rfl) ?_
  refine lv_iload_n hx hb dL_law_916 rfl (lv_at hl 3 rfl) ?_
  refine lv_iconst (v := 3) hx hb dL_law_917 (by decide) ?_
  refine lv_iadd hx hb dL_law_918 ?_
  refine tpi (x' := nI (9 * i + 3)) (nI_add _ 3) ?_
  refine m_sldN (k := 9 * i + 3) hx hb hX hbl hbA hh.S rfl (by omega) (by omega) dL_law_919 ?_
  refine lv_i2l hx hb dL_law_920 rfl ?_
  refine lv_ldc2 hx hb hown (htl _ wl_cst) dL_law_921 ?_
  refine lv_land hx hb dL_law_924 ?_
  refine lv_lor hx hb dL_law_925 ?_
  refine tpl (x' := lgV (xs (9 * i + 2)) (xs (9 * i + 3))) (rfl) ?_
  refine lv_aload_n hx hb dL_law_926 rfl (lv_at hl 0 rfl) ?_
  refine lv_iload_n hx hb dL_law_927 rfl (lv_at hl 3 rfl) ?_
  refine lv_iconst (v := 4) hx hb dL_law_928 (by decide) ?_
  refine lv_iadd hx hb dL_law_929 ?_
  refine tpi (x' := nI (9 * i + 4)) (nI_add _ 4) ?_
  refine m_sldN (k := 9 * i + 4) hx hb hX hbl hbA hh.S rfl (by omega) (by omega) dL_law_930 ?_
  refine lv_i2l hx hb dL_law_931 rfl ?_
  refine lv_bipush (v := 32) hx hb dL_law_932 (by decide) ?_
  refine lv_lshl hx hb dL_law_934 rfl ?_
  refine lv_aload_n hx hb dL_law_935 rfl (lv_at hl 0 rfl) ?_
  refine lv_iload_n hx hb dL_law_936 rfl (lv_at hl 3 rfl) ?_
  refine lv_iconst (v := 5) hx hb dL_law_937 (by decide) ?_
  refine lv_iadd hx hb dL_law_938 ?_
  refine tpi (x' := nI (9 * i + 5)) (nI_add _ 5) ?_
  refine m_sldN (k := 9 * i + 5) hx hb hX hbl hbA hh.S rfl (by omega) (by omega) dL_law_939 ?_
  refine lv_i2l hx hb dL_law_940 rfl ?_
  refine lv_ldc2 hx hb hown (htl _ wl_cst) dL_law_941 ?_
  refine lv_land hx hb dL_law_944 ?_
  refine lv_lor hx hb dL_law_945 ?_
  refine tpl (x' := lgV (xs (9 * i + 4)) (xs (9 * i + 5))) (rfl) ?_
  refine cmV (As := [.int (xs (9 * i + 1)), .long (lgV (xs (9 * i + 2)) (xs (9 * i + 3))), .long (lgV (xs (9 * i + 4)) (xs (9 * i + 5)))]) (rest := []) (k_X8_timesMove l D cA MA x J P TG GO SG BG TM SM (xs (9 * i + 1)) (lgV (xs (9 * i + 2)) (xs (9 * i + 3))) (lgV (xs (9 * i + 4)) (xs (9 * i + 5))) hx0 hJD.1 hJD.2.1 hJD.2.2.1) ⟨hx, hb, hml, hown, htl⟩ (cwV 3 htl gL_law_X8_timesMove rfl rfl rfl (by decide +kernel) ⟨Nat.le_of_ble_eq_true rfl, Nat.le_of_ble_eq_true rfl⟩) hK hh.1 hx0 rfl rfl hl.1 rfl (Nat.le_of_ble_eq_true rfl) dL_law_946 ⟨by show _ ≤ 600000; omega, by show _ ≤ 7302250; omega⟩ (fun v9 MA1 H1 locs1 hpost hh1 hz9 hk9 hn9 => ?_)
  have hh := hh.A hh1 hk9 hn9
  obtain ⟨rfl, hW1, hkc⟩ := hpost
  have hcl := cl_S hx0 hJD hpw hW1 hkc
  refine W.widen (k := cells + 27) (n := slots + 2178) (by omega) (by omega) ?_
  refine W.eq (g2 := F0 m 949 ls [.long (tmV (xs (9 * i + 1)) (lgV (xs (9 * i + 2)) (xs (9 * i + 3))) (lgV (xs (9 * i + 4)) (xs (9 * i + 5))))]) rfl ?_
  refine lv_aload_n hx hb dL_law_949 rfl (lv_at hl 2 rfl) ?_
  refine lv_aload_n hx hb dL_law_950 rfl (lv_at hl 0 rfl) ?_
  refine lv_iload_n hx hb dL_law_951 rfl (lv_at hl 3 rfl) ?_
  refine lv_iconst (v := 1) hx hb dL_law_952 (by decide) ?_
  refine lv_iadd hx hb dL_law_953 ?_
  refine tpi (x' := nI (9 * i + 1)) (nI_add _ 1) ?_
  refine m_sldN (k := 9 * i + 1) hx hb hX hbl hbA hh.S rfl (by omega) (by omega) dL_law_954 ?_
  refine lv_aload_n hx hb dL_law_955 rfl (lv_at hl 0 rfl) ?_
  refine lv_iload_n hx hb dL_law_956 rfl (lv_at hl 3 rfl) ?_
  refine lv_iconst (v := 2) hx hb dL_law_957 (by decide) ?_
  refine lv_iadd hx hb dL_law_958 ?_
  refine tpi (x' := nI (9 * i + 2)) (nI_add _ 2) ?_
  refine m_sldN (k := 9 * i + 2) hx hb hX hbl hbA hh.S rfl (by omega) (by omega) dL_law_959 ?_
  refine lv_i2l hx hb dL_law_960 rfl ?_
  refine lv_bipush (v := 32) hx hb dL_law_961 (by decide) ?_
  refine lv_lshl hx hb dL_law_963 rfl ?_
  refine lv_aload_n hx hb dL_law_964 rfl (lv_at hl 0 rfl) ?_
  refine lv_iload_n hx hb dL_law_965 rfl (lv_at hl 3 rfl) ?_
  refine lv_iconst (v := 3) hx hb dL_law_966 (by decide) ?_
  refine lv_iadd hx hb dL_law_967 ?_
  refine tpi (x' := nI (9 * i + 3)) (nI_add _ 3) ?_
  refine m_sldN (k := 9 * i + 3) hx hb hX hbl hbA hh.S rfl (by omega) (by omega) dL_law_968 ?_
  refine lv_i2l hx hb dL_law_969 rfl ?_
  refine lv_ldc2 hx hb hown (htl _ wl_cst) dL_law_970 ?_
  refine lv_land hx hb dL_law_973 ?_
  refine lv_lor hx hb dL_law_974 ?_
  refine tpl (x' := lgV (xs (9 * i + 2)) (xs (9 * i + 3))) (rfl) ?_
  refine lv_aload_n hx hb dL_law_975 rfl (lv_at hl 0 rfl) ?_
  refine lv_iload_n hx hb dL_law_976 rfl (lv_at hl 3 rfl) ?_
  refine lv_iconst (v := 4) hx hb dL_law_977 (by decide) ?_
  refine lv_iadd hx hb dL_law_978 ?_
  refine tpi (x' := nI (9 * i + 4)) (nI_add _ 4) ?_
  refine m_sldN (k := 9 * i + 4) hx hb hX hbl hbA hh.S rfl (by omega) (by omega) dL_law_979 ?_
  refine lv_i2l hx hb dL_law_980 rfl ?_
  refine lv_bipush (v := 32) hx hb dL_law_981 (by decide) ?_
  refine lv_lshl hx hb dL_law_983 rfl ?_
  refine lv_aload_n hx hb dL_law_984 rfl (lv_at hl 0 rfl) ?_
  refine lv_iload_n hx hb dL_law_985 rfl (lv_at hl 3 rfl) ?_
  refine lv_iconst (v := 5) hx hb dL_law_986 (by decide) ?_
  refine lv_iadd hx hb dL_law_987 ?_
  refine tpi (x' := nI (9 * i + 5)) (nI_add _ 5) ?_
  refine m_sldN (k := 9 * i + 5) hx hb hX hbl hbA hh.S rfl (by omega) (by omega) dL_law_988 ?_
  refine lv_i2l hx hb dL_law_989 rfl ?_
  refine lv_ldc2 hx hb hown (htl _ wl_cst) dL_law_990 ?_
  refine lv_land hx hb dL_law_993 ?_
  refine lv_lor hx hb dL_law_994 ?_
  refine tpl (x' := lgV (xs (9 * i + 4)) (xs (9 * i + 5))) (rfl) ?_
  refine cmV (As := [.int (xs (9 * i + 1)), .long (lgV (xs (9 * i + 2)) (xs (9 * i + 3))), .long (lgV (xs (9 * i + 4)) (xs (9 * i + 5)))]) (rest := [.long (tmV (xs (9 * i + 1)) (lgV (xs (9 * i + 2)) (xs (9 * i + 3))) (lgV (xs (9 * i + 4)) (xs (9 * i + 5))))]) (k_X9_timesMove l D cA MB m0 v ra f0 (xs (9 * i + 1)) (lgV (xs (9 * i + 2)) (xs (9 * i + 3))) (lgV (xs (9 * i + 4)) (xs (9 * i + 5))) hR hu1 hrw) ⟨hx, hb, hml, hown, htl⟩ (cwV 3 htl gL_law_X9_timesMove rfl rfl rfl (by decide +kernel) ⟨Nat.le_of_ble_eq_true rfl, Nat.le_of_ble_eq_true rfl⟩) hK hh.2.1 hR rfl rfl hl.1 rfl (Nat.le_of_ble_eq_true rfl) dL_law_995 ⟨by show _ ≤ 600000; omega, by show _ ≤ 7302250; omega⟩ (fun v9 MB1 H1 locs1 hpost hh1 hz9 hk9 hn9 => ?_)
  have hh := hh.B hh1 hk9 hn9
  obtain ⟨rfl, hscr⟩ := hpost
  obtain ⟨v1, hA1, hag⟩ := hA.scr hscr
  have hrf := rf_ag hA1 hag hv8 hv9 hv10 hv11 hfh hfb hff
  refine W.eq (g2 := F0 m 998 ls [.long (tmV (xs (9 * i + 1)) (lgV (xs (9 * i + 2)) (xs (9 * i + 3))) (lgV (xs (9 * i + 4)) (xs (9 * i + 5)))), .long (tmV (xs (9 * i + 1)) (lgV (xs (9 * i + 2)) (xs (9 * i + 3))) (lgV (xs (9 * i + 4)) (xs (9 * i + 5))))]) rfl ?_
  refine bl_eq (tgt := 1474) hx hb dL_law_998 dL_law_999 (by decide) (fun c_999 n_999 => ?_) (fun c_999 n_999 => ?_)
  · skip
    exact kont _ _ _ _ _ hl hh ⟨g, t, mv, mi, hs, wh, ma, fa, hBI, hcl, hrf⟩
  · exact absurd rfl c_999
set_option maxHeartbeats 2000000 in
set_option maxRecDepth 100000 in
theorem lw_c11 {p : Program} {l : Launch} {e : Env} {s : State} {m : MethodId} {below : List Frame} {meth : Method} {c : Code} {b L : Nat} {xs : Nat → Int32} {D : va_G} {cA : Nat → ClassId} {x m0 : Nat} {Q : State → Prop} (C0 : lw_At p s m meth c b L xs) (hL : L ≤ 4608) (hK : kk D cA s) {i cells slots : Nat} {MA MB : mp} {H : Heap} {locs : List Loc} {ls : Array Slot} (hi : 9 * i + 9 ≤ L) (hc : cells + 27 ≤ 600000) (hs9 : slots + 2178 ≤ 7302250) (hh : h2 D s.heap MA MB H locs) (hI : lwI cA MA MB x m0) (hl : lv_has ls 4 [(0, .ref b), (1, .ref x), (2, .ref m0), (3, .int (nI (9 * i)))]) (kont : ∀ (MA1 MB1 : mp) (H1 : Heap) (locs1 : List Loc) (ls : Array Slot), lv_has ls 4 [(0, .ref b), (1, .ref x), (2, .ref m0), (3, .int (nI (9 * i)))] → h2 D s.heap MA1 MB1 H1 locs1 → lwI cA MA1 MB1 x m0 → W p l e room_1 s m #[Value.ref b] below meth c H1 locs1 (cells + 27) (slots + 2178) Q (F0 m 1474 ls [])) : W p l e room_1 s m #[Value.ref b] below meth c H locs cells slots Q (F0 m 1004 ls []) := by
  obtain ⟨hx, hb, hr, hml, hown, hts, hX, hbl, hlocks, hgv⟩ := C0
  have hb : c.code = cL_law := hb
  have hown : s.vm.findClass RL = some m.cls := hown
  have hbA : ¬ (fun q : Nat => s.heap.size ≤ q) b := Nat.not_le.mpr hbl
  have htl : ∀ w ∈ wsL_law, w.before #[Value.ref b] s = true := fun w h => hts w (wsL_law_in w h)
  obtain ⟨g, t, mv, mi, hs, wh, ma, fa, hBI, hcl, hrf⟩ := hI
  obtain ⟨J, P, TG, GO, SG, BG, TM, SM, PH, WM, MT, WF, hx0, hJD, hpw⟩ := id hcl
  obtain ⟨fb, ra, wn, ov, th, it, td, hp, bd, fl, v, fh, fb2, ff, hA, hv8, hv9, hv10, hv11, hfh, hfb, hff⟩ := id hrf
  obtain ⟨hR, ⟨hu0, hu1, hu3, hu4, hu5, hu6, hu7, hu12, hu13, hu14⟩, ⟨f, hfb0, hfib⟩, ⟨f0, hrw⟩, hRT, ⟨fd, htd⟩, hhp, hbd, hfl⟩ := id hA
  refine lv_aload_n hx hb dL_law_1004 rfl (lv_at hl 1 rfl) ?_
  refine lv_aload_n hx hb dL_law_1005 rfl (lv_at hl 0 rfl) ?_
  refine lv_iload_n hx hb dL_law_1006 rfl (lv_at hl 3 rfl) ?_
  refine lv_iconst (v := 1) hx hb dL_law_1007 (by decide) ?_
  refine lv_iadd hx hb dL_law_1008 ?_
  refine tpi (x' := nI (9 * i + 1)) (nI_add _ 1) ?_
  refine m_sldN (k := 9 * i + 1) hx hb hX hbl hbA hh.S rfl (by omega) (by omega) dL_law_1009 ?_
  have j_1023 : ∀  (ls : Array Slot), lv_has ls 4 [(0, .ref b), (1, .ref x), (2, .ref m0), (3, .int (nI (9 * i)))] → W p l e room_1 s m #[Value.ref b] below meth c H locs (cells) (slots) Q (F0 m 1023 ls [.int (bI (decide (¬ xs (9 * i + 2) = 0))), .int (xs (9 * i + 1)), .ref x]) := by
    intro  ls  hl
    refine lv_aload_n hx hb dL_law_1023 rfl (lv_at hl 0 rfl) ?_
    refine lv_iload_n hx hb dL_law_1024 rfl (lv_at hl 3 rfl) ?_
    refine lv_iconst (v := 3) hx hb dL_law_1025 (by decide) ?_
    refine lv_iadd hx hb dL_law_1026 ?_
    refine tpi (x' := nI (9 * i + 3)) (nI_add _ 3) ?_
    refine m_sldN (k := 9 * i + 3) hx hb hX hbl hbA hh.S rfl (by omega) (by omega) dL_law_1027 ?_
    refine lv_aload_n hx hb dL_law_1028 rfl (lv_at hl 0 rfl) ?_
    refine lv_iload_n hx hb dL_law_1029 rfl (lv_at hl 3 rfl) ?_
    refine lv_iconst (v := 4) hx hb dL_law_1030 (by decide) ?_
    refine lv_iadd hx hb dL_law_1031 ?_
    refine tpi (x' := nI (9 * i + 4)) (nI_add _ 4) ?_
    refine m_sldN (k := 9 * i + 4) hx hb hX hbl hbA hh.S rfl (by omega) (by omega) dL_law_1032 ?_
    refine lv_aload_n hx hb dL_law_1033 rfl (lv_at hl 0 rfl) ?_
    refine lv_iload_n hx hb dL_law_1034 rfl (lv_at hl 3 rfl) ?_
    refine lv_iconst (v := 5) hx hb dL_law_1035 (by decide) ?_
    refine lv_iadd hx hb dL_law_1036 ?_
    refine tpi (x' := nI (9 * i + 5)) (nI_add _ 5) ?_
    refine m_sldN (k := 9 * i + 5) hx hb hX hbl hbA hh.S rfl (by omega) (by omega) dL_law_1037 ?_
    refine cmV (As := [.int (xs (9 * i + 1)), .int (bI (decide (¬ xs (9 * i + 2) = 0))), .int (xs (9 * i + 3)), .int (xs (9 * i + 4)), .int (xs (9 * i + 5))]) (rest := []) (k_X8_byAll l D cA MA x J P TG GO SG BG TM SM (xs (9 * i + 1)) (decide (¬ xs (9 * i + 2) = 0)) (xs (9 * i + 3)) (xs (9 * i + 4)) (xs (9 * i + 5)) hx0 hJD) ⟨hx, hb, hml, hown, htl⟩ (cwV 5 htl gL_law_X8_byAll rfl rfl rfl (by decide +kernel) ⟨Nat.le_of_ble_eq_true rfl, Nat.le_of_ble_eq_true rfl⟩) hK hh.1 hx0 rfl rfl hl.1 rfl (Nat.le_of_ble_eq_true rfl) dL_law_1038 ⟨by show _ ≤ 600000; omega, by show _ ≤ 7302250; omega⟩ (fun v9 MA1 H1 locs1 hpost hh1 hz9 hk9 hn9 => ?_)
    have hh := hh.A hh1 hk9 hn9
    obtain ⟨rfl, hJ1, hkc⟩ := hpost
    have hcl := cl_T hx0 hJD hpw hJ1 hkc
    refine W.widen (k := cells + 27) (n := slots + 2178) (by omega) (by omega) ?_
    refine W.eq (g2 := F0 m 1041 ls [.int (byV (xs (9 * i + 1)) (decide (¬ xs (9 * i + 2) = 0)) (xs (9 * i + 3)) (xs (9 * i + 4)) (xs (9 * i + 5)))]) rfl ?_
    refine lv_aload_n hx hb dL_law_1041 rfl (lv_at hl 2 rfl) ?_
    refine lv_aload_n hx hb dL_law_1042 rfl (lv_at hl 0 rfl) ?_
    refine lv_iload_n hx hb dL_law_1043 rfl (lv_at hl 3 rfl) ?_
    refine lv_iconst (v := 1) hx hb dL_law_1044 (by decide) ?_
    refine lv_iadd hx hb dL_law_1045 ?_
    refine tpi (x' := nI (9 * i + 1)) (nI_add _ 1) ?_
    refine m_sldN (k := 9 * i + 1) hx hb hX hbl hbA hh.S rfl (by omega) (by omega) dL_law_1046 ?_
    have j_1060 : ∀  (ls : Array Slot), lv_has ls 4 [(0, .ref b), (1, .ref x), (2, .ref m0), (3, .int (nI (9 * i)))] → W p l e room_1 s m #[Value.ref b] below meth c H1 locs1 (cells + 27) (slots + 2178) Q (F0 m 1060 ls [.int (bI (decide (¬ xs (9 * i + 2) = 0))), .int (xs (9 * i + 1)), .ref m0, .int (byV (xs (9 * i + 1)) (decide (¬ xs (9 * i + 2) = 0)) (xs (9 * i + 3)) (xs (9 * i + 4)) (xs (9 * i + 5)))]) := by
      intro  ls  hl
      refine lv_aload_n hx hb dL_law_1060 rfl (lv_at hl 0 rfl) ?_
      refine lv_iload_n hx hb dL_law_1061 rfl (lv_at hl 3 rfl) ?_
      refine lv_iconst (v := 3) hx hb dL_law_1062 (by decide) ?_
      refine lv_iadd hx hb dL_law_1063 ?_
      refine tpi (x' := nI (9 * i + 3)) (nI_add _ 3) ?_
      refine m_sldN (k := 9 * i + 3) hx hb hX hbl hbA hh.S rfl (by omega) (by omega) dL_law_1064 ?_
      refine lv_aload_n hx hb dL_law_1065 rfl (lv_at hl 0 rfl) ?_
      refine lv_iload_n hx hb dL_law_1066 rfl (lv_at hl 3 rfl) ?_
      refine lv_iconst (v := 4) hx hb dL_law_1067 (by decide) ?_
      refine lv_iadd hx hb dL_law_1068 ?_
      refine tpi (x' := nI (9 * i + 4)) (nI_add _ 4) ?_
      refine m_sldN (k := 9 * i + 4) hx hb hX hbl hbA hh.S rfl (by omega) (by omega) dL_law_1069 ?_
      refine lv_aload_n hx hb dL_law_1070 rfl (lv_at hl 0 rfl) ?_
      refine lv_iload_n hx hb dL_law_1071 rfl (lv_at hl 3 rfl) ?_
      refine lv_iconst (v := 5) hx hb dL_law_1072 (by decide) ?_
      refine lv_iadd hx hb dL_law_1073 ?_
      refine tpi (x' := nI (9 * i + 5)) (nI_add _ 5) ?_
      refine m_sldN (k := 9 * i + 5) hx hb hX hbl hbA hh.S rfl (by omega) (by omega) dL_law_1074 ?_
      refine cmV (As := [.int (xs (9 * i + 1)), .int (bI (decide (¬ xs (9 * i + 2) = 0))), .int (xs (9 * i + 3)), .int (xs (9 * i + 4)), .int (xs (9 * i + 5))]) (rest := [.int (byV (xs (9 * i + 1)) (decide (¬ xs (9 * i + 2) = 0)) (xs (9 * i + 3)) (xs (9 * i + 4)) (xs (9 * i + 5)))]) (k_X9_byAll l D cA MB m0 v wn ov th it (xs (9 * i + 1)) (decide (¬ xs (9 * i + 2) = 0)) (xs (9 * i + 3)) (xs (9 * i + 4)) (xs (9 * i + 5)) hR hu3 hu4 hu5 hu6 hRT) ⟨hx, hb, hml, hown, htl⟩ (cwV 5 htl gL_law_X9_byAll rfl rfl rfl (by decide +kernel) ⟨Nat.le_of_ble_eq_true rfl, Nat.le_of_ble_eq_true rfl⟩) hK hh.2.1 hR rfl rfl hl.1 rfl (Nat.le_of_ble_eq_true rfl) dL_law_1075 ⟨by show _ ≤ 600000; omega, by show _ ≤ 7302250; omega⟩ (fun v9 MB1 H1 locs1 hpost hh1 hz9 hk9 hn9 => ?_)
      have hh := hh.B hh1 hk9 hn9
      obtain ⟨rfl, hT1, hkc⟩ := hpost
      have hrf := rf_ag (hA.tab hkc hT1) (agS.rf v) hv8 hv9 hv10 hv11 hfh hfb hff
      refine W.eq (g2 := F0 m 1078 ls [.int (byV (xs (9 * i + 1)) (decide (¬ xs (9 * i + 2) = 0)) (xs (9 * i + 3)) (xs (9 * i + 4)) (xs (9 * i + 5))), .int (byV (xs (9 * i + 1)) (decide (¬ xs (9 * i + 2) = 0)) (xs (9 * i + 3)) (xs (9 * i + 4)) (xs (9 * i + 5)))]) rfl ?_
      refine bi_eq (tgt := 1474) hx hb dL_law_1078 (by decide) (fun c_1078 n_1078 => ?_) (fun c_1078 n_1078 => ?_)
      · skip
        exact kont _ _ _ _ _ hl hh ⟨g, t, mv, mi, hs, wh, ma, fa, hBI, hcl, hrf⟩
      · exact absurd rfl c_1078
    refine lv_aload_n hx hb dL_law_1047 rfl (lv_at hl 0 rfl) ?_
    refine lv_iload_n hx hb dL_law_1048 rfl (lv_at hl 3 rfl) ?_
    refine lv_iconst (v := 2) hx hb dL_law_1049 (by decide) ?_
    refine lv_iadd hx hb dL_law_1050 ?_
    refine tpi (x' := nI (9 * i + 2)) (nI_add _ 2) ?_
    refine m_sldN (k := 9 * i + 2) hx hb hX hbl hbA hh.S rfl (by omega) (by omega) dL_law_1051 ?_
    refine bz_eq (tgt := 1059) hx hb dL_law_1052 (by decide) (fun c_1052 n_1052 => ?_) (fun c_1052 n_1052 => ?_)
    · skip
      refine lv_iconst (v := 0) hx hb dL_law_1059 (by decide) ?_
      refine tpi (x' := bI (decide (¬ xs (9 * i + 2) = 0))) (by rw [decide_eq_false (fun z => z c_1052)]; rfl) ?_
      exact j_1060 _ (lv_sub hl [0, 1, 2, 3] rfl)
    · skip
      refine lv_iconst (v := 1) hx hb dL_law_1055 (by decide) ?_
      refine tpi (x' := bI (decide (¬ xs (9 * i + 2) = 0))) (by rw [decide_eq_true c_1052]; rfl) ?_
      refine lv_goto (tgt := 1060) hx hb dL_law_1056 (by decide) ?_
      exact j_1060 _ (lv_sub hl [0, 1, 2, 3] rfl)
  refine lv_aload_n hx hb dL_law_1010 rfl (lv_at hl 0 rfl) ?_
  refine lv_iload_n hx hb dL_law_1011 rfl (lv_at hl 3 rfl) ?_
  refine lv_iconst (v := 2) hx hb dL_law_1012 (by decide) ?_
  refine lv_iadd hx hb dL_law_1013 ?_
  refine tpi (x' := nI (9 * i + 2)) (nI_add _ 2) ?_
  refine m_sldN (k := 9 * i + 2) hx hb hX hbl hbA hh.S rfl (by omega) (by omega) dL_law_1014 ?_
  refine bz_eq (tgt := 1022) hx hb dL_law_1015 (by decide) (fun c_1015 n_1015 => ?_) (fun c_1015 n_1015 => ?_)
  · skip
    refine lv_iconst (v := 0) hx hb dL_law_1022 (by decide) ?_
    refine tpi (x' := bI (decide (¬ xs (9 * i + 2) = 0))) (by rw [decide_eq_false (fun z => z c_1015)]; rfl) ?_
    exact j_1023 _ (lv_sub hl [0, 1, 2, 3] rfl)
  · skip
    refine lv_iconst (v := 1) hx hb dL_law_1018 (by decide) ?_
    refine tpi (x' := bI (decide (¬ xs (9 * i + 2) = 0))) (by rw [decide_eq_true c_1015]; rfl) ?_
    refine lv_goto (tgt := 1023) hx hb dL_law_1019 (by decide) ?_
    exact j_1023 _ (lv_sub hl [0, 1, 2, 3] rfl)
set_option maxHeartbeats 2000000 in
set_option maxRecDepth 100000 in
theorem lw_c12 {p : Program} {l : Launch} {e : Env} {s : State} {m : MethodId} {below : List Frame} {meth : Method} {c : Code} {b L : Nat} {xs : Nat → Int32} {D : va_G} {cA : Nat → ClassId} {x m0 : Nat} {Q : State → Prop} (C0 : lw_At p s m meth c b L xs) (hL : L ≤ 4608) (hK : kk D cA s) {i cells slots : Nat} {MA MB : mp} {H : Heap} {locs : List Loc} {ls : Array Slot} (hi : 9 * i + 9 ≤ L) (hc : cells + 27 ≤ 600000) (hs9 : slots + 2178 ≤ 7302250) (hh : h2 D s.heap MA MB H locs) (hI : lwI cA MA MB x m0) (hl : lv_has ls 4 [(0, .ref b), (1, .ref x), (2, .ref m0), (3, .int (nI (9 * i)))]) (kont : ∀ (MA1 MB1 : mp) (H1 : Heap) (locs1 : List Loc) (ls : Array Slot), lv_has ls 4 [(0, .ref b), (1, .ref x), (2, .ref m0), (3, .int (nI (9 * i)))] → h2 D s.heap MA1 MB1 H1 locs1 → lwI cA MA1 MB1 x m0 → W p l e room_1 s m #[Value.ref b] below meth c H1 locs1 (cells + 27) (slots + 2178) Q (F0 m 1474 ls [])) : W p l e room_1 s m #[Value.ref b] below meth c H locs cells slots Q (F0 m 1083 ls []) := by
  obtain ⟨hx, hb, hr, hml, hown, hts, hX, hbl, hlocks, hgv⟩ := C0
  have hb : c.code = cL_law := hb
  have hown : s.vm.findClass RL = some m.cls := hown
  have hbA : ¬ (fun q : Nat => s.heap.size ≤ q) b := Nat.not_le.mpr hbl
  have htl : ∀ w ∈ wsL_law, w.before #[Value.ref b] s = true := fun w h => hts w (wsL_law_in w h)
  obtain ⟨g, t, mv, mi, hs, wh, ma, fa, hBI, hcl, hrf⟩ := hI
  obtain ⟨J, P, TG, GO, SG, BG, TM, SM, PH, WM, MT, WF, hx0, hJD, hpw⟩ := id hcl
  obtain ⟨fb, ra, wn, ov, th, it, td, hp, bd, fl, v, fh, fb2, ff, hA, hv8, hv9, hv10, hv11, hfh, hfb, hff⟩ := id hrf
  obtain ⟨hR, ⟨hu0, hu1, hu3, hu4, hu5, hu6, hu7, hu12, hu13, hu14⟩, ⟨f, hfb0, hfib⟩, ⟨f0, hrw⟩, hRT, ⟨fd, htd⟩, hhp, hbd, hfl⟩ := id hA
  refine lv_aload_n hx hb dL_law_1083 rfl (lv_at hl 1 rfl) ?_
  refine lv_aload_n hx hb dL_law_1084 rfl (lv_at hl 0 rfl) ?_
  refine lv_iload_n hx hb dL_law_1085 rfl (lv_at hl 3 rfl) ?_
  refine lv_iconst (v := 1) hx hb dL_law_1086 (by decide) ?_
  refine lv_iadd hx hb dL_law_1087 ?_
  refine tpi (x' := nI (9 * i + 1)) (nI_add _ 1) ?_
  refine m_sldN (k := 9 * i + 1) hx hb hX hbl hbA hh.S rfl (by omega) (by omega) dL_law_1088 ?_
  have j_1102 : ∀  (ls : Array Slot), lv_has ls 4 [(0, .ref b), (1, .ref x), (2, .ref m0), (3, .int (nI (9 * i)))] → W p l e room_1 s m #[Value.ref b] below meth c H locs (cells) (slots) Q (F0 m 1102 ls [.int (bI (decide (¬ xs (9 * i + 2) = 0))), .int (xs (9 * i + 1)), .ref x]) := by
    intro  ls  hl
    refine lv_aload_n hx hb dL_law_1102 rfl (lv_at hl 0 rfl) ?_
    refine lv_iload_n hx hb dL_law_1103 rfl (lv_at hl 3 rfl) ?_
    refine lv_iconst (v := 3) hx hb dL_law_1104 (by decide) ?_
    refine lv_iadd hx hb dL_law_1105 ?_
    refine tpi (x' := nI (9 * i + 3)) (nI_add _ 3) ?_
    refine m_sldN (k := 9 * i + 3) hx hb hX hbl hbA hh.S rfl (by omega) (by omega) dL_law_1106 ?_
    refine cmV (As := [.int (xs (9 * i + 1)), .int (bI (decide (¬ xs (9 * i + 2) = 0))), .int (xs (9 * i + 3))]) (rest := []) (k_X8_lostUpTo l D cA MA x J P TG GO SG BG TM SM (xs (9 * i + 1)) (decide (¬ xs (9 * i + 2) = 0)) (xs (9 * i + 3)) hx0 hJD) ⟨hx, hb, hml, hown, htl⟩ (cwV 3 htl gL_law_X8_lostUpTo rfl rfl rfl (by decide +kernel) ⟨Nat.le_of_ble_eq_true rfl, Nat.le_of_ble_eq_true rfl⟩) hK hh.1 hx0 rfl rfl hl.1 rfl (Nat.le_of_ble_eq_true rfl) dL_law_1107 ⟨by show _ ≤ 600000; omega, by show _ ≤ 7302250; omega⟩ (fun v9 MA1 H1 locs1 hpost hh1 hz9 hk9 hn9 => ?_)
    have hh := hh.A hh1 hk9 hn9
    obtain ⟨rfl, hJ1, hkc⟩ := hpost
    have hcl := cl_T hx0 hJD hpw hJ1 hkc
    refine W.widen (k := cells + 27) (n := slots + 2178) (by omega) (by omega) ?_
    refine W.eq (g2 := F0 m 1110 ls [.int (luV (xs (9 * i + 1)) (decide (¬ xs (9 * i + 2) = 0)) (xs (9 * i + 3)))]) rfl ?_
    refine lv_aload_n hx hb dL_law_1110 rfl (lv_at hl 2 rfl) ?_
    refine lv_aload_n hx hb dL_law_1111 rfl (lv_at hl 0 rfl) ?_
    refine lv_iload_n hx hb dL_law_1112 rfl (lv_at hl 3 rfl) ?_
    refine lv_iconst (v := 1) hx hb dL_law_1113 (by decide) ?_
    refine lv_iadd hx hb dL_law_1114 ?_
    refine tpi (x' := nI (9 * i + 1)) (nI_add _ 1) ?_
    refine m_sldN (k := 9 * i + 1) hx hb hX hbl hbA hh.S rfl (by omega) (by omega) dL_law_1115 ?_
    have j_1129 : ∀  (ls : Array Slot), lv_has ls 4 [(0, .ref b), (1, .ref x), (2, .ref m0), (3, .int (nI (9 * i)))] → W p l e room_1 s m #[Value.ref b] below meth c H1 locs1 (cells + 27) (slots + 2178) Q (F0 m 1129 ls [.int (bI (decide (¬ xs (9 * i + 2) = 0))), .int (xs (9 * i + 1)), .ref m0, .int (luV (xs (9 * i + 1)) (decide (¬ xs (9 * i + 2) = 0)) (xs (9 * i + 3)))]) := by
      intro  ls  hl
      refine lv_aload_n hx hb dL_law_1129 rfl (lv_at hl 0 rfl) ?_
      refine lv_iload_n hx hb dL_law_1130 rfl (lv_at hl 3 rfl) ?_
      refine lv_iconst (v := 3) hx hb dL_law_1131 (by decide) ?_
      refine lv_iadd hx hb dL_law_1132 ?_
      refine tpi (x' := nI (9 * i + 3)) (nI_add _ 3) ?_
      refine m_sldN (k := 9 * i + 3) hx hb hX hbl hbA hh.S rfl (by omega) (by omega) dL_law_1133 ?_
      refine cmV (As := [.int (xs (9 * i + 1)), .int (bI (decide (¬ xs (9 * i + 2) = 0))), .int (xs (9 * i + 3))]) (rest := [.int (luV (xs (9 * i + 1)) (decide (¬ xs (9 * i + 2) = 0)) (xs (9 * i + 3)))]) (k_X9_lostUpTo l D cA MB m0 v wn ov th it (xs (9 * i + 1)) (decide (¬ xs (9 * i + 2) = 0)) (xs (9 * i + 3)) hR hu3 hu4 hu5 hu6 hRT) ⟨hx, hb, hml, hown, htl⟩ (cwV 3 htl gL_law_X9_lostUpTo rfl rfl rfl (by decide +kernel) ⟨Nat.le_of_ble_eq_true rfl, Nat.le_of_ble_eq_true rfl⟩) hK hh.2.1 hR rfl rfl hl.1 rfl (Nat.le_of_ble_eq_true rfl) dL_law_1134 ⟨by show _ ≤ 600000; omega, by show _ ≤ 7302250; omega⟩ (fun v9 MB1 H1 locs1 hpost hh1 hz9 hk9 hn9 => ?_)
      have hh := hh.B hh1 hk9 hn9
      obtain ⟨rfl, hT1, hkc⟩ := hpost
      have hrf := rf_ag (hA.tab hkc hT1) (agS.rf v) hv8 hv9 hv10 hv11 hfh hfb hff
      refine W.eq (g2 := F0 m 1137 ls [.int (luV (xs (9 * i + 1)) (decide (¬ xs (9 * i + 2) = 0)) (xs (9 * i + 3))), .int (luV (xs (9 * i + 1)) (decide (¬ xs (9 * i + 2) = 0)) (xs (9 * i + 3)))]) rfl ?_
      refine bi_eq (tgt := 1474) hx hb dL_law_1137 (by decide) (fun c_1137 n_1137 => ?_) (fun c_1137 n_1137 => ?_)
      · skip
        exact kont _ _ _ _ _ hl hh ⟨g, t, mv, mi, hs, wh, ma, fa, hBI, hcl, hrf⟩
      · exact absurd rfl c_1137
    refine lv_aload_n hx hb dL_law_1116 rfl (lv_at hl 0 rfl) ?_
    refine lv_iload_n hx hb dL_law_1117 rfl (lv_at hl 3 rfl) ?_
    refine lv_iconst (v := 2) hx hb dL_law_1118 (by decide) ?_
    refine lv_iadd hx hb dL_law_1119 ?_
    refine tpi (x' := nI (9 * i + 2)) (nI_add _ 2) ?_
    refine m_sldN (k := 9 * i + 2) hx hb hX hbl hbA hh.S rfl (by omega) (by omega) dL_law_1120 ?_
    refine bz_eq (tgt := 1128) hx hb dL_law_1121 (by decide) (fun c_1121 n_1121 => ?_) (fun c_1121 n_1121 => ?_)
    · skip
      refine lv_iconst (v := 0) hx hb dL_law_1128 (by decide) ?_
      refine tpi (x' := bI (decide (¬ xs (9 * i + 2) = 0))) (by rw [decide_eq_false (fun z => z c_1121)]; rfl) ?_
      exact j_1129 _ (lv_sub hl [0, 1, 2, 3] rfl)
    · skip
      refine lv_iconst (v := 1) hx hb dL_law_1124 (by decide) ?_
      refine tpi (x' := bI (decide (¬ xs (9 * i + 2) = 0))) (by rw [decide_eq_true c_1121]; rfl) ?_
      refine lv_goto (tgt := 1129) hx hb dL_law_1125 (by decide) ?_
      exact j_1129 _ (lv_sub hl [0, 1, 2, 3] rfl)
  refine lv_aload_n hx hb dL_law_1089 rfl (lv_at hl 0 rfl) ?_
  refine lv_iload_n hx hb dL_law_1090 rfl (lv_at hl 3 rfl) ?_
  refine lv_iconst (v := 2) hx hb dL_law_1091 (by decide) ?_
  refine lv_iadd hx hb dL_law_1092 ?_
  refine tpi (x' := nI (9 * i + 2)) (nI_add _ 2) ?_
  refine m_sldN (k := 9 * i + 2) hx hb hX hbl hbA hh.S rfl (by omega) (by omega) dL_law_1093 ?_
  refine bz_eq (tgt := 1101) hx hb dL_law_1094 (by decide) (fun c_1094 n_1094 => ?_) (fun c_1094 n_1094 => ?_)
  · skip
    refine lv_iconst (v := 0) hx hb dL_law_1101 (by decide) ?_
    refine tpi (x' := bI (decide (¬ xs (9 * i + 2) = 0))) (by rw [decide_eq_false (fun z => z c_1094)]; rfl) ?_
    exact j_1102 _ (lv_sub hl [0, 1, 2, 3] rfl)
  · skip
    refine lv_iconst (v := 1) hx hb dL_law_1097 (by decide) ?_
    refine tpi (x' := bI (decide (¬ xs (9 * i + 2) = 0))) (by rw [decide_eq_true c_1094]; rfl) ?_
    refine lv_goto (tgt := 1102) hx hb dL_law_1098 (by decide) ?_
    exact j_1102 _ (lv_sub hl [0, 1, 2, 3] rfl)
