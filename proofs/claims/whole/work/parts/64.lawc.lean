set_option maxHeartbeats 2000000 in
set_option maxRecDepth 100000 in
theorem lw_c13 {p : Program} {l : Launch} {e : Env} {s : State} {m : MethodId} {below : List Frame} {meth : Method} {c : Code} {b L : Nat} {xs : Nat → Int32} {D : va_G} {cA : Nat → ClassId} {x m0 : Nat} {Q : State → Prop} (C0 : lw_At p s m meth c b L xs) (hL : L ≤ 4608) (hK : kk D cA s) {i cells slots : Nat} {MA MB : mp} {H : Heap} {locs : List Loc} {ls : Array Slot} (hi : 9 * i + 9 ≤ L) (hc : cells + 27 ≤ 600000) (hs9 : slots + 2178 ≤ 7302250) (hh : h2 D s.heap MA MB H locs) (hI : lwI cA MA MB x m0) (hl : lv_has ls 4 [(0, .ref b), (1, .ref x), (2, .ref m0), (3, .int (nI (9 * i)))]) (kont : ∀ (MA1 MB1 : mp) (H1 : Heap) (locs1 : List Loc) (ls : Array Slot), lv_has ls 4 [(0, .ref b), (1, .ref x), (2, .ref m0), (3, .int (nI (9 * i)))] → h2 D s.heap MA1 MB1 H1 locs1 → lwI cA MA1 MB1 x m0 → W p l e room_1 s m #[Value.ref b] below meth c H1 locs1 (cells + 27) (slots + 2178) Q (F0 m 1474 ls [])) : W p l e room_1 s m #[Value.ref b] below meth c H locs cells slots Q (F0 m 1142 ls []) := by
  obtain ⟨hx, hb, hr, hml, hown, hts, hX, hbl, hlocks, hgv⟩ := C0
  have hb : c.code = cL_law := hb
  have hown : s.vm.findClass RL = some m.cls := hown
  have hbA : ¬ (fun q : Nat => s.heap.size ≤ q) b := Nat.not_le.mpr hbl
  have htl : ∀ w ∈ wsL_law, w.before #[Value.ref b] s = true := fun w h => hts w (wsL_law_in w h)
  obtain ⟨g, t, mv, mi, hs, wh, ma, fa, hBI, hcl, hrf⟩ := hI
  obtain ⟨J, P, TG, GO, SG, BG, TM, SM, PH, WM, MT, WF, hx0, hJD, hpw⟩ := id hcl
  obtain ⟨fb, ra, wn, ov, th, it, td, hp, bd, fl, v, fh, fb2, ff, hA, hv8, hv9, hv10, hv11, hfh, hfb, hff⟩ := id hrf
  obtain ⟨hR, ⟨hu0, hu1, hu3, hu4, hu5, hu6, hu7, hu12, hu13, hu14⟩, ⟨f, hfb0, hfib⟩, ⟨f0, hrw⟩, hRT, ⟨fd, htd⟩, hhp, hbd, hfl⟩ := id hA
  refine lv_aload_n hx hb dL_law_1142 rfl (lv_at hl 1 rfl) ?_
  refine lv_aload_n hx hb dL_law_1143 rfl (lv_at hl 0 rfl) ?_
  refine lv_iload_n hx hb dL_law_1144 rfl (lv_at hl 3 rfl) ?_
  refine lv_iconst (v := 1) hx hb dL_law_1145 (by decide) ?_
  refine lv_iadd hx hb dL_law_1146 ?_
  refine tpi (x' := nI (9 * i + 1)) (nI_add _ 1) ?_
  refine m_sldN (k := 9 * i + 1) hx hb hX hbl hbA hh.S rfl (by omega) (by omega) dL_law_1147 ?_
  refine lv_aload_n hx hb dL_law_1148 rfl (lv_at hl 0 rfl) ?_
  refine lv_iload_n hx hb dL_law_1149 rfl (lv_at hl 3 rfl) ?_
  refine lv_iconst (v := 2) hx hb dL_law_1150 (by decide) ?_
  refine lv_iadd hx hb dL_law_1151 ?_
  refine tpi (x' := nI (9 * i + 2)) (nI_add _ 2) ?_
  refine m_sldN (k := 9 * i + 2) hx hb hX hbl hbA hh.S rfl (by omega) (by omega) dL_law_1152 ?_
  refine lv_aload_n hx hb dL_law_1153 rfl (lv_at hl 0 rfl) ?_
  refine lv_iload_n hx hb dL_law_1154 rfl (lv_at hl 3 rfl) ?_
  refine lv_iconst (v := 3) hx hb dL_law_1155 (by decide) ?_
  refine lv_iadd hx hb dL_law_1156 ?_
  refine tpi (x' := nI (9 * i + 3)) (nI_add _ 3) ?_
  refine m_sldN (k := 9 * i + 3) hx hb hX hbl hbA hh.S rfl (by omega) (by omega) dL_law_1157 ?_
  refine cmV (As := [.int (xs (9 * i + 1)), .int (xs (9 * i + 2)), .int (xs (9 * i + 3))]) (rest := []) (k_X8_timesByAll l D cA MA x (xs (9 * i + 1)) (xs (9 * i + 2)) (xs (9 * i + 3))) ⟨hx, hb, hml, hown, htl⟩ (cwV 3 htl gL_law_X8_timesByAll rfl rfl rfl (by decide +kernel) ⟨Nat.le_of_ble_eq_true rfl, Nat.le_of_ble_eq_true rfl⟩) hK hh.1 hx0 rfl rfl hl.1 rfl (Nat.le_of_ble_eq_true rfl) dL_law_1158 ⟨by show _ ≤ 600000; omega, by show _ ≤ 7302250; omega⟩ (fun v9 MA1 H1 locs1 hpost hh1 hz9 hk9 hn9 => ?_)
  have hh := hh.A hh1 hk9 hn9
  obtain ⟨rfl, hkc⟩ := hpost
  have hcl := cl_0 hx0 hJD hpw hkc
  refine W.widen (k := cells + 27) (n := slots + 2178) (by omega) (by omega) ?_
  refine W.eq (g2 := F0 m 1161 ls [.int (tbV (xs (9 * i + 1)) (xs (9 * i + 2)) (xs (9 * i + 3)))]) rfl ?_
  refine lv_aload_n hx hb dL_law_1161 rfl (lv_at hl 2 rfl) ?_
  refine lv_aload_n hx hb dL_law_1162 rfl (lv_at hl 0 rfl) ?_
  refine lv_iload_n hx hb dL_law_1163 rfl (lv_at hl 3 rfl) ?_
  refine lv_iconst (v := 1) hx hb dL_law_1164 (by decide) ?_
  refine lv_iadd hx hb dL_law_1165 ?_
  refine tpi (x' := nI (9 * i + 1)) (nI_add _ 1) ?_
  refine m_sldN (k := 9 * i + 1) hx hb hX hbl hbA hh.S rfl (by omega) (by omega) dL_law_1166 ?_
  refine lv_aload_n hx hb dL_law_1167 rfl (lv_at hl 0 rfl) ?_
  refine lv_iload_n hx hb dL_law_1168 rfl (lv_at hl 3 rfl) ?_
  refine lv_iconst (v := 2) hx hb dL_law_1169 (by decide) ?_
  refine lv_iadd hx hb dL_law_1170 ?_
  refine tpi (x' := nI (9 * i + 2)) (nI_add _ 2) ?_
  refine m_sldN (k := 9 * i + 2) hx hb hX hbl hbA hh.S rfl (by omega) (by omega) dL_law_1171 ?_
  refine lv_aload_n hx hb dL_law_1172 rfl (lv_at hl 0 rfl) ?_
  refine lv_iload_n hx hb dL_law_1173 rfl (lv_at hl 3 rfl) ?_
  refine lv_iconst (v := 3) hx hb dL_law_1174 (by decide) ?_
  refine lv_iadd hx hb dL_law_1175 ?_
  refine tpi (x' := nI (9 * i + 3)) (nI_add _ 3) ?_
  refine m_sldN (k := 9 * i + 3) hx hb hX hbl hbA hh.S rfl (by omega) (by omega) dL_law_1176 ?_
  refine cmV (As := [.int (xs (9 * i + 1)), .int (xs (9 * i + 2)), .int (xs (9 * i + 3))]) (rest := [.int (tbV (xs (9 * i + 1)) (xs (9 * i + 2)) (xs (9 * i + 3)))]) (k_X9_timesByAll l D cA MB m0 v td fd (xs (9 * i + 1)) (xs (9 * i + 2)) (xs (9 * i + 3)) hR hu7 htd) ⟨hx, hb, hml, hown, htl⟩ (cwV 3 htl gL_law_X9_timesByAll rfl rfl rfl (by decide +kernel) ⟨Nat.le_of_ble_eq_true rfl, Nat.le_of_ble_eq_true rfl⟩) hK hh.2.1 hR rfl rfl hl.1 rfl (Nat.le_of_ble_eq_true rfl) dL_law_1177 ⟨by show _ ≤ 600000; omega, by show _ ≤ 7302250; omega⟩ (fun v9 MB1 H1 locs1 hpost hh1 hz9 hk9 hn9 => ?_)
  have hh := hh.B hh1 hk9 hn9
  obtain ⟨rfl, htd1, hkc⟩ := hpost
  have hrf := rf_ag (hA.td htd1 hkc) (agS.rf v) hv8 hv9 hv10 hv11 hfh hfb hff
  refine W.eq (g2 := F0 m 1180 ls [.int (tbV (xs (9 * i + 1)) (xs (9 * i + 2)) (xs (9 * i + 3))), .int (tbV (xs (9 * i + 1)) (xs (9 * i + 2)) (xs (9 * i + 3)))]) rfl ?_
  refine bi_eq (tgt := 1474) hx hb dL_law_1180 (by decide) (fun c_1180 n_1180 => ?_) (fun c_1180 n_1180 => ?_)
  · skip
    exact kont _ _ _ _ _ hl hh ⟨g, t, mv, mi, hs, wh, ma, fa, hBI, hcl, hrf⟩
  · exact absurd rfl c_1180
set_option maxHeartbeats 2000000 in
set_option maxRecDepth 100000 in
theorem lw_c14 {p : Program} {l : Launch} {e : Env} {s : State} {m : MethodId} {below : List Frame} {meth : Method} {c : Code} {b L : Nat} {xs : Nat → Int32} {D : va_G} {cA : Nat → ClassId} {x m0 : Nat} {Q : State → Prop} (C0 : lw_At p s m meth c b L xs) (hL : L ≤ 4608) (hK : kk D cA s) {i cells slots : Nat} {MA MB : mp} {H : Heap} {locs : List Loc} {ls : Array Slot} (hi : 9 * i + 9 ≤ L) (hc : cells + 27 ≤ 600000) (hs9 : slots + 2178 ≤ 7302250) (hh : h2 D s.heap MA MB H locs) (hI : lwI cA MA MB x m0) (hl : lv_has ls 4 [(0, .ref b), (1, .ref x), (2, .ref m0), (3, .int (nI (9 * i)))]) (kont : ∀ (MA1 MB1 : mp) (H1 : Heap) (locs1 : List Loc) (ls : Array Slot), lv_has ls 4 [(0, .ref b), (1, .ref x), (2, .ref m0), (3, .int (nI (9 * i)))] → h2 D s.heap MA1 MB1 H1 locs1 → lwI cA MA1 MB1 x m0 → W p l e room_1 s m #[Value.ref b] below meth c H1 locs1 (cells + 27) (slots + 2178) Q (F0 m 1474 ls [])) : W p l e room_1 s m #[Value.ref b] below meth c H locs cells slots Q (F0 m 1185 ls []) := by
  obtain ⟨hx, hb, hr, hml, hown, hts, hX, hbl, hlocks, hgv⟩ := C0
  have hb : c.code = cL_law := hb
  have hown : s.vm.findClass RL = some m.cls := hown
  have hbA : ¬ (fun q : Nat => s.heap.size ≤ q) b := Nat.not_le.mpr hbl
  have htl : ∀ w ∈ wsL_law, w.before #[Value.ref b] s = true := fun w h => hts w (wsL_law_in w h)
  obtain ⟨g, t, mv, mi, hs, wh, ma, fa, hBI, hcl, hrf⟩ := hI
  obtain ⟨J, P, TG, GO, SG, BG, TM, SM, PH, WM, MT, WF, hx0, hJD, hpw⟩ := id hcl
  obtain ⟨fb, ra, wn, ov, th, it, td, hp, bd, fl, v, fh, fb2, ff, hA, hv8, hv9, hv10, hv11, hfh, hfb, hff⟩ := id hrf
  obtain ⟨hR, ⟨hu0, hu1, hu3, hu4, hu5, hu6, hu7, hu12, hu13, hu14⟩, ⟨f, hfb0, hfib⟩, ⟨f0, hrw⟩, hRT, ⟨fd, htd⟩, hhp, hbd, hfl⟩ := id hA
  refine lv_aload_n hx hb dL_law_1185 rfl (lv_at hl 1 rfl) ?_
  refine lv_aload_n hx hb dL_law_1186 rfl (lv_at hl 0 rfl) ?_
  refine lv_iload_n hx hb dL_law_1187 rfl (lv_at hl 3 rfl) ?_
  refine lv_iconst (v := 1) hx hb dL_law_1188 (by decide) ?_
  refine lv_iadd hx hb dL_law_1189 ?_
  refine tpi (x' := nI (9 * i + 1)) (nI_add _ 1) ?_
  refine m_sldN (k := 9 * i + 1) hx hb hX hbl hbA hh.S rfl (by omega) (by omega) dL_law_1190 ?_
  have j_1204 : ∀  (ls : Array Slot), lv_has ls 4 [(0, .ref b), (1, .ref x), (2, .ref m0), (3, .int (nI (9 * i)))] → W p l e room_1 s m #[Value.ref b] below meth c H locs (cells) (slots) Q (F0 m 1204 ls [.int (bI (decide (¬ xs (9 * i + 2) = 0))), .int (xs (9 * i + 1)), .ref x]) := by
    intro  ls  hl
    refine lv_aload_n hx hb dL_law_1204 rfl (lv_at hl 0 rfl) ?_
    refine lv_iload_n hx hb dL_law_1205 rfl (lv_at hl 3 rfl) ?_
    refine lv_iconst (v := 3) hx hb dL_law_1206 (by decide) ?_
    refine lv_iadd hx hb dL_law_1207 ?_
    refine tpi (x' := nI (9 * i + 3)) (nI_add _ 3) ?_
    refine m_sldN (k := 9 * i + 3) hx hb hX hbl hbA hh.S rfl (by omega) (by omega) dL_law_1208 ?_
    refine lv_i2l hx hb dL_law_1209 rfl ?_
    refine lv_bipush (v := 32) hx hb dL_law_1210 (by decide) ?_
    refine lv_lshl hx hb dL_law_1212 rfl ?_
    refine lv_aload_n hx hb dL_law_1213 rfl (lv_at hl 0 rfl) ?_
    refine lv_iload_n hx hb dL_law_1214 rfl (lv_at hl 3 rfl) ?_
    refine lv_iconst (v := 4) hx hb dL_law_1215 (by decide) ?_
    refine lv_iadd hx hb dL_law_1216 ?_
    refine tpi (x' := nI (9 * i + 4)) (nI_add _ 4) ?_
    refine m_sldN (k := 9 * i + 4) hx hb hX hbl hbA hh.S rfl (by omega) (by omega) dL_law_1217 ?_
    refine lv_i2l hx hb dL_law_1218 rfl ?_
    refine lv_ldc2 hx hb hown (htl _ wl_cst) dL_law_1219 ?_
    refine lv_land hx hb dL_law_1222 ?_
    refine lv_lor hx hb dL_law_1223 ?_
    refine tpl (x' := lgV (xs (9 * i + 3)) (xs (9 * i + 4))) (rfl) ?_
    refine lv_aload_n hx hb dL_law_1224 rfl (lv_at hl 0 rfl) ?_
    refine lv_iload_n hx hb dL_law_1225 rfl (lv_at hl 3 rfl) ?_
    refine lv_iconst (v := 5) hx hb dL_law_1226 (by decide) ?_
    refine lv_iadd hx hb dL_law_1227 ?_
    refine tpi (x' := nI (9 * i + 5)) (nI_add _ 5) ?_
    refine m_sldN (k := 9 * i + 5) hx hb hX hbl hbA hh.S rfl (by omega) (by omega) dL_law_1228 ?_
    refine lv_i2l hx hb dL_law_1229 rfl ?_
    refine lv_bipush (v := 32) hx hb dL_law_1230 (by decide) ?_
    refine lv_lshl hx hb dL_law_1232 rfl ?_
    refine lv_aload_n hx hb dL_law_1233 rfl (lv_at hl 0 rfl) ?_
    refine lv_iload_n hx hb dL_law_1234 rfl (lv_at hl 3 rfl) ?_
    refine lv_bipush (v := 6) hx hb dL_law_1235 (by decide) ?_
    refine lv_iadd hx hb dL_law_1237 ?_
    refine tpi (x' := nI (9 * i + 6)) (nI_add _ 6) ?_
    refine m_sldN (k := 9 * i + 6) hx hb hX hbl hbA hh.S rfl (by omega) (by omega) dL_law_1238 ?_
    refine lv_i2l hx hb dL_law_1239 rfl ?_
    refine lv_ldc2 hx hb hown (htl _ wl_cst) dL_law_1240 ?_
    refine lv_land hx hb dL_law_1243 ?_
    refine lv_lor hx hb dL_law_1244 ?_
    refine tpl (x' := lgV (xs (9 * i + 5)) (xs (9 * i + 6))) (rfl) ?_
    refine lv_aload_n hx hb dL_law_1245 rfl (lv_at hl 0 rfl) ?_
    refine lv_iload_n hx hb dL_law_1246 rfl (lv_at hl 3 rfl) ?_
    refine lv_bipush (v := 7) hx hb dL_law_1247 (by decide) ?_
    refine lv_iadd hx hb dL_law_1249 ?_
    refine tpi (x' := nI (9 * i + 7)) (nI_add _ 7) ?_
    refine m_sldN (k := 9 * i + 7) hx hb hX hbl hbA hh.S rfl (by omega) (by omega) dL_law_1250 ?_
    refine lv_i2l hx hb dL_law_1251 rfl ?_
    refine lv_bipush (v := 32) hx hb dL_law_1252 (by decide) ?_
    refine lv_lshl hx hb dL_law_1254 rfl ?_
    refine lv_aload_n hx hb dL_law_1255 rfl (lv_at hl 0 rfl) ?_
    refine lv_iload_n hx hb dL_law_1256 rfl (lv_at hl 3 rfl) ?_
    refine lv_bipush (v := 8) hx hb dL_law_1257 (by decide) ?_
    refine lv_iadd hx hb dL_law_1259 ?_
    refine tpi (x' := nI (9 * i + 8)) (nI_add _ 8) ?_
    refine m_sldN (k := 9 * i + 8) hx hb hX hbl hbA hh.S rfl (by omega) (by omega) dL_law_1260 ?_
    refine lv_i2l hx hb dL_law_1261 rfl ?_
    refine lv_ldc2 hx hb hown (htl _ wl_cst) dL_law_1262 ?_
    refine lv_land hx hb dL_law_1265 ?_
    refine lv_lor hx hb dL_law_1266 ?_
    refine tpl (x' := lgV (xs (9 * i + 7)) (xs (9 * i + 8))) (rfl) ?_
    refine cmV (As := [.int (xs (9 * i + 1)), .int (bI (decide (¬ xs (9 * i + 2) = 0))), .long (lgV (xs (9 * i + 3)) (xs (9 * i + 4))), .long (lgV (xs (9 * i + 5)) (xs (9 * i + 6))), .long (lgV (xs (9 * i + 7)) (xs (9 * i + 8)))]) (rest := []) (k_X8_board l D cA MA x P J PH WM MT WF g t mv mi (hs mv) wh ma fa TG GO SG BG TM SM (xs (9 * i + 1)) (decide (¬ xs (9 * i + 2) = 0)) (lgV (xs (9 * i + 3)) (xs (9 * i + 4))) (lgV (xs (9 * i + 5)) (xs (9 * i + 6))) (lgV (xs (9 * i + 7)) (xs (9 * i + 8))) hx0 hpw hJD) ⟨hx, hb, hml, hown, htl⟩ (cwV 5 htl gL_law_X8_board rfl rfl rfl (by decide +kernel) ⟨Nat.le_of_ble_eq_true rfl, Nat.le_of_ble_eq_true rfl⟩) hK hh.1 hx0 rfl rfl hl.1 rfl (Nat.le_of_ble_eq_true rfl) dL_law_1267 ⟨by show _ ≤ 600000; omega, by show _ ≤ 7302250; omega⟩ (fun v9 MA1 H1 locs1 hpost hh1 hz9 hk9 hn9 => ?_)
    have hh := hh.A hh1 hk9 hn9
    obtain ⟨rfl, hcf, hct⟩ := bdA hx0 hJD hpw hpost
    refine W.widen (k := cells + 27) (n := slots + 2178) (by omega) (by omega) ?_
    refine W.eq (g2 := F0 m 1270 ls [.int (if ahF (xs (9 * i + 1)) (decide (¬ xs (9 * i + 2) = 0)) (lgV (xs (9 * i + 3)) (xs (9 * i + 4))) (lgV (xs (9 * i + 5)) (xs (9 * i + 6))) (lgV (xs (9 * i + 7)) (xs (9 * i + 8))) = true then 1 else -2)]) rfl ?_
    refine lv_aload_n hx hb dL_law_1270 rfl (lv_at hl 2 rfl) ?_
    refine lv_aload_n hx hb dL_law_1271 rfl (lv_at hl 0 rfl) ?_
    refine lv_iload_n hx hb dL_law_1272 rfl (lv_at hl 3 rfl) ?_
    refine lv_iconst (v := 1) hx hb dL_law_1273 (by decide) ?_
    refine lv_iadd hx hb dL_law_1274 ?_
    refine tpi (x' := nI (9 * i + 1)) (nI_add _ 1) ?_
    refine m_sldN (k := 9 * i + 1) hx hb hX hbl hbA hh.S rfl (by omega) (by omega) dL_law_1275 ?_
    have j_1289 : ∀  (ls : Array Slot), lv_has ls 4 [(0, .ref b), (1, .ref x), (2, .ref m0), (3, .int (nI (9 * i)))] → W p l e room_1 s m #[Value.ref b] below meth c H1 locs1 (cells + 27) (slots + 2178) Q (F0 m 1289 ls [.int (bI (decide (¬ xs (9 * i + 2) = 0))), .int (xs (9 * i + 1)), .ref m0, .int (if ahF (xs (9 * i + 1)) (decide (¬ xs (9 * i + 2) = 0)) (lgV (xs (9 * i + 3)) (xs (9 * i + 4))) (lgV (xs (9 * i + 5)) (xs (9 * i + 6))) (lgV (xs (9 * i + 7)) (xs (9 * i + 8))) = true then 1 else -2)]) := by
      intro  ls  hl
      refine lv_aload_n hx hb dL_law_1289 rfl (lv_at hl 0 rfl) ?_
      refine lv_iload_n hx hb dL_law_1290 rfl (lv_at hl 3 rfl) ?_
      refine lv_iconst (v := 3) hx hb dL_law_1291 (by decide) ?_
      refine lv_iadd hx hb dL_law_1292 ?_
      refine tpi (x' := nI (9 * i + 3)) (nI_add _ 3) ?_
      refine m_sldN (k := 9 * i + 3) hx hb hX hbl hbA hh.S rfl (by omega) (by omega) dL_law_1293 ?_
      refine lv_i2l hx hb dL_law_1294 rfl ?_
      refine lv_bipush (v := 32) hx hb dL_law_1295 (by decide) ?_
      refine lv_lshl hx hb dL_law_1297 rfl ?_
      refine lv_aload_n hx hb dL_law_1298 rfl (lv_at hl 0 rfl) ?_
      refine lv_iload_n hx hb dL_law_1299 rfl (lv_at hl 3 rfl) ?_
      refine lv_iconst (v := 4) hx hb dL_law_1300 (by decide) ?_
      refine lv_iadd hx hb dL_law_1301 ?_
      refine tpi (x' := nI (9 * i + 4)) (nI_add _ 4) ?_
      refine m_sldN (k := 9 * i + 4) hx hb hX hbl hbA hh.S rfl (by omega) (by omega) dL_law_1302 ?_
      refine lv_i2l hx hb dL_law_1303 rfl ?_
      refine lv_ldc2 hx hb hown (htl _ wl_cst) dL_law_1304 ?_
      refine lv_land hx hb dL_law_1307 ?_
      refine lv_lor hx hb dL_law_1308 ?_
      refine tpl (x' := lgV (xs (9 * i + 3)) (xs (9 * i + 4))) (rfl) ?_
      refine lv_aload_n hx hb dL_law_1309 rfl (lv_at hl 0 rfl) ?_
      refine lv_iload_n hx hb dL_law_1310 rfl (lv_at hl 3 rfl) ?_
      refine lv_iconst (v := 5) hx hb dL_law_1311 (by decide) ?_
      refine lv_iadd hx hb dL_law_1312 ?_
      refine tpi (x' := nI (9 * i + 5)) (nI_add _ 5) ?_
      refine m_sldN (k := 9 * i + 5) hx hb hX hbl hbA hh.S rfl (by omega) (by omega) dL_law_1313 ?_
      refine lv_i2l hx hb dL_law_1314 rfl ?_
      refine lv_bipush (v := 32) hx hb dL_law_1315 (by decide) ?_
      refine lv_lshl hx hb dL_law_1317 rfl ?_
      refine lv_aload_n hx hb dL_law_1318 rfl (lv_at hl 0 rfl) ?_
      refine lv_iload_n hx hb dL_law_1319 rfl (lv_at hl 3 rfl) ?_
      refine lv_bipush (v := 6) hx hb dL_law_1320 (by decide) ?_
      refine lv_iadd hx hb dL_law_1322 ?_
      refine tpi (x' := nI (9 * i + 6)) (nI_add _ 6) ?_
      refine m_sldN (k := 9 * i + 6) hx hb hX hbl hbA hh.S rfl (by omega) (by omega) dL_law_1323 ?_
      refine lv_i2l hx hb dL_law_1324 rfl ?_
      refine lv_ldc2 hx hb hown (htl _ wl_cst) dL_law_1325 ?_
      refine lv_land hx hb dL_law_1328 ?_
      refine lv_lor hx hb dL_law_1329 ?_
      refine tpl (x' := lgV (xs (9 * i + 5)) (xs (9 * i + 6))) (rfl) ?_
      refine lv_aload_n hx hb dL_law_1330 rfl (lv_at hl 0 rfl) ?_
      refine lv_iload_n hx hb dL_law_1331 rfl (lv_at hl 3 rfl) ?_
      refine lv_bipush (v := 7) hx hb dL_law_1332 (by decide) ?_
      refine lv_iadd hx hb dL_law_1334 ?_
      refine tpi (x' := nI (9 * i + 7)) (nI_add _ 7) ?_
      refine m_sldN (k := 9 * i + 7) hx hb hX hbl hbA hh.S rfl (by omega) (by omega) dL_law_1335 ?_
      refine lv_i2l hx hb dL_law_1336 rfl ?_
      refine lv_bipush (v := 32) hx hb dL_law_1337 (by decide) ?_
      refine lv_lshl hx hb dL_law_1339 rfl ?_
      refine lv_aload_n hx hb dL_law_1340 rfl (lv_at hl 0 rfl) ?_
      refine lv_iload_n hx hb dL_law_1341 rfl (lv_at hl 3 rfl) ?_
      refine lv_bipush (v := 8) hx hb dL_law_1342 (by decide) ?_
      refine lv_iadd hx hb dL_law_1344 ?_
      refine tpi (x' := nI (9 * i + 8)) (nI_add _ 8) ?_
      refine m_sldN (k := 9 * i + 8) hx hb hX hbl hbA hh.S rfl (by omega) (by omega) dL_law_1345 ?_
      refine lv_i2l hx hb dL_law_1346 rfl ?_
      refine lv_ldc2 hx hb hown (htl _ wl_cst) dL_law_1347 ?_
      refine lv_land hx hb dL_law_1350 ?_
      refine lv_lor hx hb dL_law_1351 ?_
      refine tpl (x' := lgV (xs (9 * i + 7)) (xs (9 * i + 8))) (rfl) ?_
      refine cmV (As := [.int (xs (9 * i + 1)), .int (bI (decide (¬ xs (9 * i + 2) = 0))), .long (lgV (xs (9 * i + 3)) (xs (9 * i + 4))), .long (lgV (xs (9 * i + 5)) (xs (9 * i + 6))), .long (lgV (xs (9 * i + 7)) (xs (9 * i + 8)))]) (rest := [.int (if ahF (xs (9 * i + 1)) (decide (¬ xs (9 * i + 2) = 0)) (lgV (xs (9 * i + 3)) (xs (9 * i + 4))) (lgV (xs (9 * i + 5)) (xs (9 * i + 6))) (lgV (xs (9 * i + 7)) (xs (9 * i + 8))) = true then 1 else -2)]) (k_X9_board l D cA MB m0 fb ra wn ov th it td hp bd fl v fh fb2 ff (xs (9 * i + 1)) (decide (¬ xs (9 * i + 2) = 0)) (lgV (xs (9 * i + 3)) (xs (9 * i + 4))) (lgV (xs (9 * i + 5)) (xs (9 * i + 6))) (lgV (xs (9 * i + 7)) (xs (9 * i + 8))) hA) ⟨hx, hb, hml, hown, htl⟩ (cwV 5 htl gL_law_X9_board rfl rfl rfl (by decide +kernel) ⟨Nat.le_of_ble_eq_true rfl, Nat.le_of_ble_eq_true rfl⟩) hK hh.2.1 hR rfl rfl hl.1 rfl (Nat.le_of_ble_eq_true rfl) dL_law_1352 ⟨by show _ ≤ 600000; omega, by show _ ≤ 7302250; omega⟩ (fun v9 MB1 H1 locs1 hpost hh1 hz9 hk9 hn9 => ?_)
      have hh := hh.B hh1 hk9 hn9
      obtain ⟨rfl, hrf0, hrt⟩ := bdB hA hv8 hv9 hv10 hv11 hfh hfb hff hpost
      refine W.eq (g2 := F0 m 1355 ls [.int (if ahF (xs (9 * i + 1)) (decide (¬ xs (9 * i + 2) = 0)) (lgV (xs (9 * i + 3)) (xs (9 * i + 4))) (lgV (xs (9 * i + 5)) (xs (9 * i + 6))) (lgV (xs (9 * i + 7)) (xs (9 * i + 8))) = true then 1 else -2), .int (if ahF (xs (9 * i + 1)) (decide (¬ xs (9 * i + 2) = 0)) (lgV (xs (9 * i + 3)) (xs (9 * i + 4))) (lgV (xs (9 * i + 5)) (xs (9 * i + 6))) (lgV (xs (9 * i + 7)) (xs (9 * i + 8))) = true then 1 else -2)]) rfl ?_
      refine bi_eq (tgt := 1474) hx hb dL_law_1355 (by decide) (fun c_1355 n_1355 => ?_) (fun c_1355 n_1355 => ?_)
      · skip
        refine kont _ _ _ _ _ hl hh ?_
        cases hok : ahF (xs (9 * i + 1)) (decide (¬ xs (9 * i + 2) = 0)) (lgV (xs (9 * i + 3)) (xs (9 * i + 4))) (lgV (xs (9 * i + 5)) (xs (9 * i + 6))) (lgV (xs (9 * i + 7)) (xs (9 * i + 8))) with
        | false => exact ⟨g, t, mv, mi, hs, wh, ma, fa, hBI, hcf hok, hrf0 hok⟩
        | true => exact ⟨_, _, 0, _, _, wh, ma, fa, hBI.nw (ah_ok hok).2.2.2, hct hok, hrt hok⟩
      · exact absurd rfl c_1355
    refine lv_aload_n hx hb dL_law_1276 rfl (lv_at hl 0 rfl) ?_
    refine lv_iload_n hx hb dL_law_1277 rfl (lv_at hl 3 rfl) ?_
    refine lv_iconst (v := 2) hx hb dL_law_1278 (by decide) ?_
    refine lv_iadd hx hb dL_law_1279 ?_
    refine tpi (x' := nI (9 * i + 2)) (nI_add _ 2) ?_
    refine m_sldN (k := 9 * i + 2) hx hb hX hbl hbA hh.S rfl (by omega) (by omega) dL_law_1280 ?_
    refine bz_eq (tgt := 1288) hx hb dL_law_1281 (by decide) (fun c_1281 n_1281 => ?_) (fun c_1281 n_1281 => ?_)
    · skip
      refine lv_iconst (v := 0) hx hb dL_law_1288 (by decide) ?_
      refine tpi (x' := bI (decide (¬ xs (9 * i + 2) = 0))) (by rw [decide_eq_false (fun z => z c_1281)]; rfl) ?_
      exact j_1289 _ (lv_sub hl [0, 1, 2, 3] rfl)
    · skip
      refine lv_iconst (v := 1) hx hb dL_law_1284 (by decide) ?_
      refine tpi (x' := bI (decide (¬ xs (9 * i + 2) = 0))) (by rw [decide_eq_true c_1281]; rfl) ?_
      refine lv_goto (tgt := 1289) hx hb dL_law_1285 (by decide) ?_
      exact j_1289 _ (lv_sub hl [0, 1, 2, 3] rfl)
  refine lv_aload_n hx hb dL_law_1191 rfl (lv_at hl 0 rfl) ?_
  refine lv_iload_n hx hb dL_law_1192 rfl (lv_at hl 3 rfl) ?_
  refine lv_iconst (v := 2) hx hb dL_law_1193 (by decide) ?_
  refine lv_iadd hx hb dL_law_1194 ?_
  refine tpi (x' := nI (9 * i + 2)) (nI_add _ 2) ?_
  refine m_sldN (k := 9 * i + 2) hx hb hX hbl hbA hh.S rfl (by omega) (by omega) dL_law_1195 ?_
  refine bz_eq (tgt := 1203) hx hb dL_law_1196 (by decide) (fun c_1196 n_1196 => ?_) (fun c_1196 n_1196 => ?_)
  · skip
    refine lv_iconst (v := 0) hx hb dL_law_1203 (by decide) ?_
    refine tpi (x' := bI (decide (¬ xs (9 * i + 2) = 0))) (by rw [decide_eq_false (fun z => z c_1196)]; rfl) ?_
    exact j_1204 _ (lv_sub hl [0, 1, 2, 3] rfl)
  · skip
    refine lv_iconst (v := 1) hx hb dL_law_1199 (by decide) ?_
    refine tpi (x' := bI (decide (¬ xs (9 * i + 2) = 0))) (by rw [decide_eq_true c_1196]; rfl) ?_
    refine lv_goto (tgt := 1204) hx hb dL_law_1200 (by decide) ?_
    exact j_1204 _ (lv_sub hl [0, 1, 2, 3] rfl)
set_option maxHeartbeats 2000000 in
set_option maxRecDepth 100000 in
theorem lw_c15 {p : Program} {l : Launch} {e : Env} {s : State} {m : MethodId} {below : List Frame} {meth : Method} {c : Code} {b L : Nat} {xs : Nat → Int32} {D : va_G} {cA : Nat → ClassId} {x m0 : Nat} {Q : State → Prop} (C0 : lw_At p s m meth c b L xs) (hL : L ≤ 4608) (hK : kk D cA s) {i cells slots : Nat} {MA MB : mp} {H : Heap} {locs : List Loc} {ls : Array Slot} (hi : 9 * i + 9 ≤ L) (hc : cells + 27 ≤ 600000) (hs9 : slots + 2178 ≤ 7302250) (hh : h2 D s.heap MA MB H locs) (hI : lwI cA MA MB x m0) (hl : lv_has ls 4 [(0, .ref b), (1, .ref x), (2, .ref m0), (3, .int (nI (9 * i)))]) (kont : ∀ (MA1 MB1 : mp) (H1 : Heap) (locs1 : List Loc) (ls : Array Slot), lv_has ls 4 [(0, .ref b), (1, .ref x), (2, .ref m0), (3, .int (nI (9 * i)))] → h2 D s.heap MA1 MB1 H1 locs1 → lwI cA MA1 MB1 x m0 → W p l e room_1 s m #[Value.ref b] below meth c H1 locs1 (cells + 27) (slots + 2178) Q (F0 m 1474 ls [])) : W p l e room_1 s m #[Value.ref b] below meth c H locs cells slots Q (F0 m 1360 ls []) := by
  obtain ⟨hx, hb, hr, hml, hown, hts, hX, hbl, hlocks, hgv⟩ := C0
  have hb : c.code = cL_law := hb
  have hown : s.vm.findClass RL = some m.cls := hown
  have hbA : ¬ (fun q : Nat => s.heap.size ≤ q) b := Nat.not_le.mpr hbl
  have htl : ∀ w ∈ wsL_law, w.before #[Value.ref b] s = true := fun w h => hts w (wsL_law_in w h)
  obtain ⟨g, t, mv, mi, hs, wh, ma, fa, hBI, hcl, hrf⟩ := hI
  obtain ⟨J, P, TG, GO, SG, BG, TM, SM, PH, WM, MT, WF, hx0, hJD, hpw⟩ := id hcl
  obtain ⟨fb, ra, wn, ov, th, it, td, hp, bd, fl, v, fh, fb2, ff, hA, hv8, hv9, hv10, hv11, hfh, hfb, hff⟩ := id hrf
  obtain ⟨hR, ⟨hu0, hu1, hu3, hu4, hu5, hu6, hu7, hu12, hu13, hu14⟩, ⟨f, hfb0, hfib⟩, ⟨f0, hrw⟩, hRT, ⟨fd, htd⟩, hhp, hbd, hfl⟩ := id hA
  refine lv_aload_n hx hb dL_law_1360 rfl (lv_at hl 1 rfl) ?_
  refine lv_aload_n hx hb dL_law_1361 rfl (lv_at hl 0 rfl) ?_
  refine lv_iload_n hx hb dL_law_1362 rfl (lv_at hl 3 rfl) ?_
  refine lv_iconst (v := 1) hx hb dL_law_1363 (by decide) ?_
  refine lv_iadd hx hb dL_law_1364 ?_
  refine tpi (x' := nI (9 * i + 1)) (nI_add _ 1) ?_
  refine m_sldN (k := 9 * i + 1) hx hb hX hbl hbA hh.S rfl (by omega) (by omega) dL_law_1365 ?_
  refine lv_aload_n hx hb dL_law_1366 rfl (lv_at hl 0 rfl) ?_
  refine lv_iload_n hx hb dL_law_1367 rfl (lv_at hl 3 rfl) ?_
  refine lv_iconst (v := 2) hx hb dL_law_1368 (by decide) ?_
  refine lv_iadd hx hb dL_law_1369 ?_
  refine tpi (x' := nI (9 * i + 2)) (nI_add _ 2) ?_
  refine m_sldN (k := 9 * i + 2) hx hb hX hbl hbA hh.S rfl (by omega) (by omega) dL_law_1370 ?_
  refine lv_i2l hx hb dL_law_1371 rfl ?_
  refine lv_bipush (v := 32) hx hb dL_law_1372 (by decide) ?_
  refine lv_lshl hx hb dL_law_1374 rfl ?_
  refine lv_aload_n hx hb dL_law_1375 rfl (lv_at hl 0 rfl) ?_
  refine lv_iload_n hx hb dL_law_1376 rfl (lv_at hl 3 rfl) ?_
  refine lv_iconst (v := 3) hx hb dL_law_1377 (by decide) ?_
  refine lv_iadd hx hb dL_law_1378 ?_
  refine tpi (x' := nI (9 * i + 3)) (nI_add _ 3) ?_
  refine m_sldN (k := 9 * i + 3) hx hb hX hbl hbA hh.S rfl (by omega) (by omega) dL_law_1379 ?_
  refine lv_i2l hx hb dL_law_1380 rfl ?_
  refine lv_ldc2 hx hb hown (htl _ wl_cst) dL_law_1381 ?_
  refine lv_land hx hb dL_law_1384 ?_
  refine lv_lor hx hb dL_law_1385 ?_
  refine tpl (x' := lgV (xs (9 * i + 2)) (xs (9 * i + 3))) (rfl) ?_
  refine cmV (As := [.int (xs (9 * i + 1)), .long (lgV (xs (9 * i + 2)) (xs (9 * i + 3)))]) (rest := []) (k_X8_move l D cA MA x P J PH WM MT WF g t mv mi (hs mv) wh ma fa TG GO SG BG TM SM (xs (9 * i + 1)) (lgV (xs (9 * i + 2)) (xs (9 * i + 3))) hx0 hpw hJD (hBI.2.1 mv (Nat.le_refl _)) hBI.1 (hBI.2.2.1 _)) ⟨hx, hb, hml, hown, htl⟩ (cwV 2 htl gL_law_X8_move rfl rfl rfl (by decide +kernel) ⟨Nat.le_of_ble_eq_true rfl, Nat.le_of_ble_eq_true rfl⟩) hK hh.1 hx0 rfl rfl hl.1 rfl (Nat.le_of_ble_eq_true rfl) dL_law_1386 ⟨by show _ ≤ 600000; omega, by show _ ≤ 7302250; omega⟩ (fun v9 MA1 H1 locs1 hpost hh1 hz9 hk9 hn9 => ?_)
  have hh := hh.A hh1 hk9 hn9
  obtain ⟨rfl, hcf, hct⟩ := mvA hx0 hJD hpw hpost
  refine W.widen (k := cells + 27) (n := slots + 2178) (by omega) (by omega) ?_
  refine W.eq (g2 := F0 m 1389 ls [.int (mvR g t mv (hs mv) (bdV g t mv (hs mv 0) (ma (mv - 1))) (xs (9 * i + 1)) (lgV (xs (9 * i + 2)) (xs (9 * i + 3))))]) rfl ?_
  refine lv_aload_n hx hb dL_law_1389 rfl (lv_at hl 2 rfl) ?_
  refine lv_aload_n hx hb dL_law_1390 rfl (lv_at hl 0 rfl) ?_
  refine lv_iload_n hx hb dL_law_1391 rfl (lv_at hl 3 rfl) ?_
  refine lv_iconst (v := 1) hx hb dL_law_1392 (by decide) ?_
  refine lv_iadd hx hb dL_law_1393 ?_
  refine tpi (x' := nI (9 * i + 1)) (nI_add _ 1) ?_
  refine m_sldN (k := 9 * i + 1) hx hb hX hbl hbA hh.S rfl (by omega) (by omega) dL_law_1394 ?_
  refine lv_aload_n hx hb dL_law_1395 rfl (lv_at hl 0 rfl) ?_
  refine lv_iload_n hx hb dL_law_1396 rfl (lv_at hl 3 rfl) ?_
  refine lv_iconst (v := 2) hx hb dL_law_1397 (by decide) ?_
  refine lv_iadd hx hb dL_law_1398 ?_
  refine tpi (x' := nI (9 * i + 2)) (nI_add _ 2) ?_
  refine m_sldN (k := 9 * i + 2) hx hb hX hbl hbA hh.S rfl (by omega) (by omega) dL_law_1399 ?_
  refine lv_i2l hx hb dL_law_1400 rfl ?_
  refine lv_bipush (v := 32) hx hb dL_law_1401 (by decide) ?_
  refine lv_lshl hx hb dL_law_1403 rfl ?_
  refine lv_aload_n hx hb dL_law_1404 rfl (lv_at hl 0 rfl) ?_
  refine lv_iload_n hx hb dL_law_1405 rfl (lv_at hl 3 rfl) ?_
  refine lv_iconst (v := 3) hx hb dL_law_1406 (by decide) ?_
  refine lv_iadd hx hb dL_law_1407 ?_
  refine tpi (x' := nI (9 * i + 3)) (nI_add _ 3) ?_
  refine m_sldN (k := 9 * i + 3) hx hb hX hbl hbA hh.S rfl (by omega) (by omega) dL_law_1408 ?_
  refine lv_i2l hx hb dL_law_1409 rfl ?_
  refine lv_ldc2 hx hb hown (htl _ wl_cst) dL_law_1410 ?_
  refine lv_land hx hb dL_law_1413 ?_
  refine lv_lor hx hb dL_law_1414 ?_
  refine tpl (x' := lgV (xs (9 * i + 2)) (xs (9 * i + 3))) (rfl) ?_
  refine cmV (As := [.int (xs (9 * i + 1)), .long (lgV (xs (9 * i + 2)) (xs (9 * i + 3)))]) (rest := [.int (mvR g t mv (hs mv) (bdV g t mv (hs mv 0) (ma (mv - 1))) (xs (9 * i + 1)) (lgV (xs (9 * i + 2)) (xs (9 * i + 3))))]) (k_X9_move l D cA MB m0 fb ra wn ov th it td hp bd fl v fh fb2 ff g t mv mi (hs mv) (bdV g t mv (hs mv 0) (ma (mv - 1))) (fcF fa mv) (xs (9 * i + 1)) (lgV (xs (9 * i + 2)) (xs (9 * i + 3))) hA hv8 hv9 hv10 hv11 (hfh mv (Nat.le_refl _)) hBI.1 (hfb mv (Nat.le_refl _)) (hBI.2.1 mv (Nat.le_refl _)) hBI.bs (hff mv (Nat.le_refl _)) (Nat.le_trans (fcF_le fa mv) hBI.1)) ⟨hx, hb, hml, hown, htl⟩ (cwV 2 htl gL_law_X9_move rfl rfl rfl (by decide +kernel) ⟨Nat.le_of_ble_eq_true rfl, Nat.le_of_ble_eq_true rfl⟩) hK hh.2.1 hR rfl rfl hl.1 rfl (Nat.le_of_ble_eq_true rfl) dL_law_1415 ⟨by show _ ≤ 600000; omega, by show _ ≤ 7302250; omega⟩ (fun v9 MB1 H1 locs1 hpost hh1 hz9 hk9 hn9 => ?_)
  have hh := hh.B hh1 hk9 hn9
  obtain ⟨rfl, hrf0, hrt⟩ := mvB hA hv8 hv9 hv10 hv11 hfh hfb hff hpost
  refine W.eq (g2 := F0 m 1418 ls [.int (mvR g t mv (hs mv) (bdV g t mv (hs mv 0) (ma (mv - 1))) (xs (9 * i + 1)) (lgV (xs (9 * i + 2)) (xs (9 * i + 3)))), .int (mvR g t mv (hs mv) (bdV g t mv (hs mv 0) (ma (mv - 1))) (xs (9 * i + 1)) (lgV (xs (9 * i + 2)) (xs (9 * i + 3))))]) rfl ?_
  refine bi_eq (tgt := 1474) hx hb dL_law_1418 (by decide) (fun c_1418 n_1418 => ?_) (fun c_1418 n_1418 => ?_)
  · skip
    refine kont _ _ _ _ _ hl hh ?_
    cases hok : okM g mv (hs mv) (bdV g t mv (hs mv 0) (ma (mv - 1))) (xs (9 * i + 1)) (lgV (xs (9 * i + 2)) (xs (9 * i + 3))) with
    | false => exact ⟨g, t, mv, mi, hs, wh, ma, fa, hBI, hcf hok, hrf0 hok⟩
    | true =>
      obtain ⟨hw9, hm9⟩ := okM_t hok (hBI.2.1 mv (Nat.le_refl _)).1
      have hcl := hct hok
      rw [show hvT g (nB (xs (9 * i + 1))) (nL (lgV (xs (9 * i + 2)) (xs (9 * i + 3)))) (hs mv) = va_up hs (mv + 1) (hvT g (nB (xs (9 * i + 1))) (nL (lgV (xs (9 * i + 2)) (xs (9 * i + 3)))) (hs mv)) (mv + 1) from (va_up_self _ _ _).symm] at hcl
      exact ⟨_, _, mv + 1, _, _, _, _, _, hBI.mv hw9 hm9, hct hok |> fun z => by rw [va_up_self]; exact z, hrt hok⟩
  · exact absurd rfl c_1418
set_option maxHeartbeats 2000000 in
set_option maxRecDepth 100000 in
theorem lw_c16 {p : Program} {l : Launch} {e : Env} {s : State} {m : MethodId} {below : List Frame} {meth : Method} {c : Code} {b L : Nat} {xs : Nat → Int32} {D : va_G} {cA : Nat → ClassId} {x m0 : Nat} {Q : State → Prop} (C0 : lw_At p s m meth c b L xs) (hL : L ≤ 4608) (hK : kk D cA s) {i cells slots : Nat} {MA MB : mp} {H : Heap} {locs : List Loc} {ls : Array Slot} (hi : 9 * i + 9 ≤ L) (hc : cells + 27 ≤ 600000) (hs9 : slots + 2178 ≤ 7302250) (hh : h2 D s.heap MA MB H locs) (hI : lwI cA MA MB x m0) (hl : lv_has ls 4 [(0, .ref b), (1, .ref x), (2, .ref m0), (3, .int (nI (9 * i)))]) (kont : ∀ (MA1 MB1 : mp) (H1 : Heap) (locs1 : List Loc) (ls : Array Slot), lv_has ls 4 [(0, .ref b), (1, .ref x), (2, .ref m0), (3, .int (nI (9 * i)))] → h2 D s.heap MA1 MB1 H1 locs1 → lwI cA MA1 MB1 x m0 → W p l e room_1 s m #[Value.ref b] below meth c H1 locs1 (cells + 27) (slots + 2178) Q (F0 m 1474 ls [])) : W p l e room_1 s m #[Value.ref b] below meth c H locs cells slots Q (F0 m 1423 ls []) := by
  obtain ⟨hx, hb, hr, hml, hown, hts, hX, hbl, hlocks, hgv⟩ := C0
  have hb : c.code = cL_law := hb
  have hown : s.vm.findClass RL = some m.cls := hown
  have hbA : ¬ (fun q : Nat => s.heap.size ≤ q) b := Nat.not_le.mpr hbl
  have htl : ∀ w ∈ wsL_law, w.before #[Value.ref b] s = true := fun w h => hts w (wsL_law_in w h)
  obtain ⟨g, t, mv, mi, hs, wh, ma, fa, hBI, hcl, hrf⟩ := hI
  obtain ⟨J, P, TG, GO, SG, BG, TM, SM, PH, WM, MT, WF, hx0, hJD, hpw⟩ := id hcl
  obtain ⟨fb, ra, wn, ov, th, it, td, hp, bd, fl, v, fh, fb2, ff, hA, hv8, hv9, hv10, hv11, hfh, hfb, hff⟩ := id hrf
  obtain ⟨hR, ⟨hu0, hu1, hu3, hu4, hu5, hu6, hu7, hu12, hu13, hu14⟩, ⟨f, hfb0, hfib⟩, ⟨f0, hrw⟩, hRT, ⟨fd, htd⟩, hhp, hbd, hfl⟩ := id hA
  rcases Nat.eq_zero_or_pos mv with hz | hz
  · skip
    skip
    refine lv_aload_n hx hb dL_law_1423 rfl (lv_at hl 1 rfl) ?_
    refine cmV (As := []) (rest := []) (k_X8_undo0 l D cA MA x P J PH WM MT WF g t mv mi (hs mv) wh ma fa hx0 hpw hz) ⟨hx, hb, hml, hown, htl⟩ (cwV 0 htl gL_law_X8_undo rfl rfl rfl (by decide +kernel) ⟨Nat.le_of_ble_eq_true rfl, Nat.le_of_ble_eq_true rfl⟩) hK hh.1 hx0 rfl rfl hl.1 rfl (Nat.le_of_ble_eq_true rfl) dL_law_1424 ⟨by show _ ≤ 600000; omega, by show _ ≤ 7302250; omega⟩ (fun v9 MA1 H1 locs1 hpost hh1 hz9 hk9 hn9 => ?_)
    have hh := hh.A hh1 hk9 hn9
    obtain ⟨rfl, hkc⟩ := hpost
    have hcl := cl_0 hx0 hJD hpw hkc
    refine W.widen (k := cells + 27) (n := slots + 2178) (by omega) (by omega) ?_
    refine W.eq (g2 := F0 m 1427 ls [.int ((-3))]) rfl ?_
    refine lv_aload_n hx hb dL_law_1427 rfl (lv_at hl 2 rfl) ?_
    refine cmV (As := []) (rest := [.int ((-3))]) (k_X9_undo0 l D cA MB m0 v hR (by rw [hv11, hz])) ⟨hx, hb, hml, hown, htl⟩ (cwV 0 htl gL_law_X9_undo rfl rfl rfl (by decide +kernel) ⟨Nat.le_of_ble_eq_true rfl, Nat.le_of_ble_eq_true rfl⟩) hK hh.2.1 hR rfl rfl hl.1 rfl (Nat.le_of_ble_eq_true rfl) dL_law_1428 ⟨by show _ ≤ 600000; omega, by show _ ≤ 7302250; omega⟩ (fun v9 MB1 H1 locs1 hpost hh1 hz9 hk9 hn9 => ?_)
    have hh := hh.B hh1 hk9 hn9
    obtain ⟨rfl, hkc⟩ := hpost
    have hrf := rf_ag (rf_0 hA hkc) (agS.rf v) hv8 hv9 hv10 hv11 hfh hfb hff
    refine W.eq (g2 := F0 m 1431 ls [.int ((-3)), .int ((-3))]) rfl ?_
    refine bi_eq (tgt := 1474) hx hb dL_law_1431 (by decide) (fun c_1431 n_1431 => ?_) (fun c_1431 n_1431 => ?_)
    · skip
      exact kont _ _ _ _ _ hl hh ⟨g, t, mv, mi, hs, wh, ma, fa, hBI, hcl, hrf⟩
    · exact absurd rfl c_1431
  · skip
    obtain ⟨mq, rfl⟩ : ∃ mq, mv = mq + 1 := ⟨mv - 1, by omega⟩
    refine lv_aload_n hx hb dL_law_1423 rfl (lv_at hl 1 rfl) ?_
    refine cmV (As := []) (rest := []) (k_X8_undo l D cA MA x P J PH WM MT WF g t (mq + 1) mi (hs (mq + 1)) wh ma fa TG GO SG BG TM SM mq hx0 hpw hJD (hBI.2.1 (mq + 1) (Nat.le_refl _)).1 rfl hBI.1 (hBI.2.2.2 mq (Nat.lt_succ_self _)).1) ⟨hx, hb, hml, hown, htl⟩ (cwV 0 htl gL_law_X8_undo rfl rfl rfl (by decide +kernel) ⟨Nat.le_of_ble_eq_true rfl, Nat.le_of_ble_eq_true rfl⟩) hK hh.1 hx0 rfl rfl hl.1 rfl (Nat.le_of_ble_eq_true rfl) dL_law_1424 ⟨by show _ ≤ 600000; omega, by show _ ≤ 7302250; omega⟩ (fun v9 MA1 H1 locs1 hpost hh1 hz9 hk9 hn9 => ?_)
    have hh := hh.A hh1 hk9 hn9
    obtain ⟨rfl, hpw1, hJ1, hkc⟩ := hpost
    obtain ⟨fhx, fwx, fmx, fzx, g1, g2, -⟩ := id hpw
    have hcl : clW cA MA1 x g t mq mi (hs mq) wh ma fa := ⟨J, P, TG, GO, SG, BG, TM, SM, PH, WM, MT, WF, hkc _ _ hx0 (ni2 (mp_ne hx0 g1 (by simp)) (mp_ne hx0 g2 (by simp))), hJ1, hpw1.cg (hBI.2.2.2 mq (Nat.lt_succ_self _)).2⟩
    refine W.widen (k := cells + 27) (n := slots + 2178) (by omega) (by omega) ?_
    refine W.eq (g2 := F0 m 1427 ls [.int (nI mq)]) rfl ?_
    refine lv_aload_n hx hb dL_law_1427 rfl (lv_at hl 2 rfl) ?_
    refine cmV (As := []) (rest := [.int (nI mq)]) (k_X9_undo l D cA MB m0 fb ra wn ov th it td hp bd fl v fh fb2 ff (mq + 1) mq hA hv11 rfl hBI.1) ⟨hx, hb, hml, hown, htl⟩ (cwV 0 htl gL_law_X9_undo rfl rfl rfl (by decide +kernel) ⟨Nat.le_of_ble_eq_true rfl, Nat.le_of_ble_eq_true rfl⟩) hK hh.2.1 hR rfl rfl hl.1 rfl (Nat.le_of_ble_eq_true rfl) dL_law_1428 ⟨by show _ ≤ 600000; omega, by show _ ≤ 7302250; omega⟩ (fun v9 MB1 H1 locs1 hpost hh1 hz9 hk9 hn9 => ?_)
    have hh := hh.B hh1 hk9 hn9
    obtain ⟨rfl, ⟨v1, hA1, hu11, hoth⟩, hkc⟩ := hpost
    have hrf : rfW cA MB1 m0 g t mq mi hs (bsF g t hs ma) (fcF fa) := ⟨fb, ra, wn, ov, th, it, td, hp, bd, fl, v1, fh, fb2, ff, hA1, (hoth 8 (by decide)).trans hv8, (hoth 9 (by decide)).trans hv9, (hoth 10 (by decide)).trans hv10, hu11, fun j hj => hfh j (by omega), fun j hj => hfb j (by omega), fun j hj => hff j (by omega)⟩
    refine W.eq (g2 := F0 m 1431 ls [.int (nI mq), .int (nI mq)]) rfl ?_
    refine bi_eq (tgt := 1474) hx hb dL_law_1431 (by decide) (fun c_1431 n_1431 => ?_) (fun c_1431 n_1431 => ?_)
    · skip
      exact kont _ _ _ _ _ hl hh ⟨g, t, mq, mi, hs, wh, ma, fa, hBI.dn, hcl, hrf⟩
    · exact absurd rfl c_1431
set_option maxHeartbeats 2000000 in
set_option maxRecDepth 100000 in
theorem lw_c17 {p : Program} {l : Launch} {e : Env} {s : State} {m : MethodId} {below : List Frame} {meth : Method} {c : Code} {b L : Nat} {xs : Nat → Int32} {D : va_G} {cA : Nat → ClassId} {x m0 : Nat} {Q : State → Prop} (C0 : lw_At p s m meth c b L xs) (hL : L ≤ 4608) (hK : kk D cA s) {i cells slots : Nat} {MA MB : mp} {H : Heap} {locs : List Loc} {ls : Array Slot} (hi : 9 * i + 9 ≤ L) (hc : cells + 27 ≤ 600000) (hs9 : slots + 2178 ≤ 7302250) (hh : h2 D s.heap MA MB H locs) (hI : lwI cA MA MB x m0) (hl : lv_has ls 4 [(0, .ref b), (1, .ref x), (2, .ref m0), (3, .int (nI (9 * i)))]) (kont : ∀ (MA1 MB1 : mp) (H1 : Heap) (locs1 : List Loc) (ls : Array Slot), lv_has ls 4 [(0, .ref b), (1, .ref x), (2, .ref m0), (3, .int (nI (9 * i)))] → h2 D s.heap MA1 MB1 H1 locs1 → lwI cA MA1 MB1 x m0 → W p l e room_1 s m #[Value.ref b] below meth c H1 locs1 (cells + 27) (slots + 2178) Q (F0 m 1474 ls [])) : W p l e room_1 s m #[Value.ref b] below meth c H locs cells slots Q (F0 m 1436 ls []) := by
  obtain ⟨hx, hb, hr, hml, hown, hts, hX, hbl, hlocks, hgv⟩ := C0
  have hb : c.code = cL_law := hb
  have hown : s.vm.findClass RL = some m.cls := hown
  have hbA : ¬ (fun q : Nat => s.heap.size ≤ q) b := Nat.not_le.mpr hbl
  have htl : ∀ w ∈ wsL_law, w.before #[Value.ref b] s = true := fun w h => hts w (wsL_law_in w h)
  obtain ⟨g, t, mv, mi, hs, wh, ma, fa, hBI, hcl, hrf⟩ := hI
  obtain ⟨J, P, TG, GO, SG, BG, TM, SM, PH, WM, MT, WF, hx0, hJD, hpw⟩ := id hcl
  obtain ⟨fb, ra, wn, ov, th, it, td, hp, bd, fl, v, fh, fb2, ff, hA, hv8, hv9, hv10, hv11, hfh, hfb, hff⟩ := id hrf
  obtain ⟨hR, ⟨hu0, hu1, hu3, hu4, hu5, hu6, hu7, hu12, hu13, hu14⟩, ⟨f, hfb0, hfib⟩, ⟨f0, hrw⟩, hRT, ⟨fd, htd⟩, hhp, hbd, hfl⟩ := id hA
  refine lv_aload_n hx hb dL_law_1436 rfl (lv_at hl 1 rfl) ?_
  refine lv_aload_n hx hb dL_law_1437 rfl (lv_at hl 0 rfl) ?_
  refine lv_iload_n hx hb dL_law_1438 rfl (lv_at hl 3 rfl) ?_
  refine lv_iconst (v := 1) hx hb dL_law_1439 (by decide) ?_
  refine lv_iadd hx hb dL_law_1440 ?_
  refine tpi (x' := nI (9 * i + 1)) (nI_add _ 1) ?_
  refine m_sldN (k := 9 * i + 1) hx hb hX hbl hbA hh.S rfl (by omega) (by omega) dL_law_1441 ?_
  refine cmV (As := [.int (xs (9 * i + 1))]) (rest := []) (k_X8_about l D cA MA x P J PH WM MT WF g t mv mi (hs mv) wh ma fa TG GO SG BG TM SM (xs (9 * i + 1)) hx0 hpw hJD (hBI.2.1 mv (Nat.le_refl _)) hBI.1 (hBI.2.2.1 _)) ⟨hx, hb, hml, hown, htl⟩ (cwV 1 htl gL_law_X8_about rfl rfl rfl (by decide +kernel) ⟨Nat.le_of_ble_eq_true rfl, Nat.le_of_ble_eq_true rfl⟩) hK hh.1 hx0 rfl rfl hl.1 rfl (Nat.le_of_ble_eq_true rfl) dL_law_1442 ⟨by show _ ≤ 600000; omega, by show _ ≤ 7302250; omega⟩ (fun v9 MA1 H1 locs1 hpost hh1 hz9 hk9 hn9 => ?_)
  have hh := hh.A hh1 hk9 hn9
  obtain ⟨rfl, hJ1, hkc⟩ := hpost
  have hcl := cl_ST hx0 hJD hpw hJ1 hkc
  refine W.widen (k := cells + 27) (n := slots + 2178) (by omega) (by omega) ?_
  refine W.eq (g2 := F0 m 1445 ls [.long (tlV g mi t mv (hs mv) (bdV g t mv (hs mv 0) (ma (mv - 1))) (fcF fa mv) (xs (9 * i + 1)))]) rfl ?_
  refine lv_aload_n hx hb dL_law_1445 rfl (lv_at hl 2 rfl) ?_
  refine lv_aload_n hx hb dL_law_1446 rfl (lv_at hl 0 rfl) ?_
  refine lv_iload_n hx hb dL_law_1447 rfl (lv_at hl 3 rfl) ?_
  refine lv_iconst (v := 1) hx hb dL_law_1448 (by decide) ?_
  refine lv_iadd hx hb dL_law_1449 ?_
  refine tpi (x' := nI (9 * i + 1)) (nI_add _ 1) ?_
  refine m_sldN (k := 9 * i + 1) hx hb hX hbl hbA hh.S rfl (by omega) (by omega) dL_law_1450 ?_
  refine cmV (As := [.int (xs (9 * i + 1))]) (rest := [.long (tlV g mi t mv (hs mv) (bdV g t mv (hs mv 0) (ma (mv - 1))) (fcF fa mv) (xs (9 * i + 1)))]) (k_X9_about l D cA MB m0 fb ra wn ov th it td hp bd fl v fh fb2 ff g t mv mi (hs mv) (bdV g t mv (hs mv 0) (ma (mv - 1))) (fcF fa mv) (xs (9 * i + 1)) hA hv8 hv9 hv10 hv11 (hfh mv (Nat.le_refl _)) hBI.1 (hfb mv (Nat.le_refl _)) (hBI.2.1 mv (Nat.le_refl _)) hBI.bs (hff mv (Nat.le_refl _)) (Nat.le_trans (fcF_le fa mv) hBI.1)) ⟨hx, hb, hml, hown, htl⟩ (cwV 1 htl gL_law_X9_about rfl rfl rfl (by decide +kernel) ⟨Nat.le_of_ble_eq_true rfl, Nat.le_of_ble_eq_true rfl⟩) hK hh.2.1 hR rfl rfl hl.1 rfl (Nat.le_of_ble_eq_true rfl) dL_law_1451 ⟨by show _ ≤ 600000; omega, by show _ ≤ 7302250; omega⟩ (fun v9 MB1 H1 locs1 hpost hh1 hz9 hk9 hn9 => ?_)
  have hh := hh.B hh1 hk9 hn9
  obtain ⟨rfl, ⟨v1, hA1, hag⟩, hkc⟩ := hpost
  have hrf := rf_ag hA1 hag hv8 hv9 hv10 hv11 hfh hfb hff
  refine W.eq (g2 := F0 m 1454 ls [.long (tlV g mi t mv (hs mv) (bdV g t mv (hs mv 0) (ma (mv - 1))) (fcF fa mv) (xs (9 * i + 1))), .long (tlV g mi t mv (hs mv) (bdV g t mv (hs mv 0) (ma (mv - 1))) (fcF fa mv) (xs (9 * i + 1)))]) rfl ?_
  refine bl_eq (tgt := 1474) hx hb dL_law_1454 dL_law_1455 (by decide) (fun c_1455 n_1455 => ?_) (fun c_1455 n_1455 => ?_)
  · skip
    exact kont _ _ _ _ _ hl hh ⟨g, t, mv, mi, hs, wh, ma, fa, hBI, hcl, hrf⟩
  · exact absurd rfl c_1455
set_option maxHeartbeats 2000000 in
set_option maxRecDepth 100000 in
theorem lw_c18 {p : Program} {l : Launch} {e : Env} {s : State} {m : MethodId} {below : List Frame} {meth : Method} {c : Code} {b L : Nat} {xs : Nat → Int32} {D : va_G} {cA : Nat → ClassId} {x m0 : Nat} {Q : State → Prop} (C0 : lw_At p s m meth c b L xs) (hL : L ≤ 4608) (hK : kk D cA s) {i cells slots : Nat} {MA MB : mp} {H : Heap} {locs : List Loc} {ls : Array Slot} (hi : 9 * i + 9 ≤ L) (hc : cells + 27 ≤ 600000) (hs9 : slots + 2178 ≤ 7302250) (hh : h2 D s.heap MA MB H locs) (hI : lwI cA MA MB x m0) (hl : lv_has ls 4 [(0, .ref b), (1, .ref x), (2, .ref m0), (3, .int (nI (9 * i)))]) (kont : ∀ (MA1 MB1 : mp) (H1 : Heap) (locs1 : List Loc) (ls : Array Slot), lv_has ls 4 [(0, .ref b), (1, .ref x), (2, .ref m0), (3, .int (nI (9 * i)))] → h2 D s.heap MA1 MB1 H1 locs1 → lwI cA MA1 MB1 x m0 → W p l e room_1 s m #[Value.ref b] below meth c H1 locs1 (cells + 27) (slots + 2178) Q (F0 m 1474 ls [])) : W p l e room_1 s m #[Value.ref b] below meth c H locs cells slots Q (F0 m 1460 ls []) := by
  obtain ⟨hx, hb, hr, hml, hown, hts, hX, hbl, hlocks, hgv⟩ := C0
  have hb : c.code = cL_law := hb
  have hown : s.vm.findClass RL = some m.cls := hown
  have hbA : ¬ (fun q : Nat => s.heap.size ≤ q) b := Nat.not_le.mpr hbl
  have htl : ∀ w ∈ wsL_law, w.before #[Value.ref b] s = true := fun w h => hts w (wsL_law_in w h)
  obtain ⟨g, t, mv, mi, hs, wh, ma, fa, hBI, hcl, hrf⟩ := hI
  obtain ⟨J, P, TG, GO, SG, BG, TM, SM, PH, WM, MT, WF, hx0, hJD, hpw⟩ := id hcl
  obtain ⟨fb, ra, wn, ov, th, it, td, hp, bd, fl, v, fh, fb2, ff, hA, hv8, hv9, hv10, hv11, hfh, hfb, hff⟩ := id hrf
  obtain ⟨hR, ⟨hu0, hu1, hu3, hu4, hu5, hu6, hu7, hu12, hu13, hu14⟩, ⟨f, hfb0, hfib⟩, ⟨f0, hrw⟩, hRT, ⟨fd, htd⟩, hhp, hbd, hfl⟩ := id hA
  refine lv_aload_n hx hb dL_law_1460 rfl (lv_at hl 1 rfl) ?_
  refine cmV (As := []) (rest := []) (k_X8_digest l D cA MA x P J PH WM MT WF g t mv mi (hs mv) wh ma fa TG GO SG BG TM SM hx0 hpw hJD (hBI.2.1 mv (Nat.le_refl _)) hBI.1 (hBI.2.2.1 _)) ⟨hx, hb, hml, hown, htl⟩ (cwV 0 htl gL_law_X8_digest rfl rfl rfl (by decide +kernel) ⟨Nat.le_of_ble_eq_true rfl, Nat.le_of_ble_eq_true rfl⟩) hK hh.1 hx0 rfl rfl hl.1 rfl (Nat.le_of_ble_eq_true rfl) dL_law_1461 ⟨by show _ ≤ 600000; omega, by show _ ≤ 7302250; omega⟩ (fun v9 MA1 H1 locs1 hpost hh1 hz9 hk9 hn9 => ?_)
  have hh := hh.A hh1 hk9 hn9
  obtain ⟨rfl, hJ1, hkc⟩ := hpost
  have hcl := cl_ST hx0 hJD hpw hJ1 hkc
  refine W.widen (k := cells + 27) (n := slots + 2178) (by omega) (by omega) ?_
  refine W.eq (g2 := F0 m 1464 ls [.long (dgF (tlV g mi t mv (hs mv) (bdV g t mv (hs mv 0) (ma (mv - 1))) (fcF fa mv)) 9)]) rfl ?_
  refine lv_aload_n hx hb dL_law_1464 rfl (lv_at hl 2 rfl) ?_
  refine cmV (As := []) (rest := [.long (dgF (tlV g mi t mv (hs mv) (bdV g t mv (hs mv 0) (ma (mv - 1))) (fcF fa mv)) 9)]) (k_X9_digest l D cA MB m0 fb ra wn ov th it td hp bd fl v fh fb2 ff g t mv mi (hs mv) (bdV g t mv (hs mv 0) (ma (mv - 1))) (fcF fa mv) hA hv8 hv9 hv10 hv11 (hfh mv (Nat.le_refl _)) hBI.1 (hfb mv (Nat.le_refl _)) (hBI.2.1 mv (Nat.le_refl _)) hBI.bs (hff mv (Nat.le_refl _)) (Nat.le_trans (fcF_le fa mv) hBI.1)) ⟨hx, hb, hml, hown, htl⟩ (cwV 0 htl gL_law_X9_digest rfl rfl rfl (by decide +kernel) ⟨Nat.le_of_ble_eq_true rfl, Nat.le_of_ble_eq_true rfl⟩) hK hh.2.1 hR rfl rfl hl.1 rfl (Nat.le_of_ble_eq_true rfl) dL_law_1465 ⟨by show _ ≤ 600000; omega, by show _ ≤ 7302250; omega⟩ (fun v9 MB1 H1 locs1 hpost hh1 hz9 hk9 hn9 => ?_)
  have hh := hh.B hh1 hk9 hn9
  obtain ⟨rfl, ⟨v1, hA1, hag⟩, hkc⟩ := hpost
  have hrf := rf_ag hA1 hag hv8 hv9 hv10 hv11 hfh hfb hff
  refine W.eq (g2 := F0 m 1468 ls [.long (dgF (tlV g mi t mv (hs mv) (bdV g t mv (hs mv 0) (ma (mv - 1))) (fcF fa mv)) 9), .long (dgF (tlV g mi t mv (hs mv) (bdV g t mv (hs mv 0) (ma (mv - 1))) (fcF fa mv)) 9)]) rfl ?_
  refine bl_eq (tgt := 1474) hx hb dL_law_1468 dL_law_1469 (by decide) (fun c_1469 n_1469 => ?_) (fun c_1469 n_1469 => ?_)
  · skip
    exact kont _ _ _ _ _ hl hh ⟨g, t, mv, mi, hs, wh, ma, fa, hBI, hcl, hrf⟩
  · exact absurd rfl c_1469
