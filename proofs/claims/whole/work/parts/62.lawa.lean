set_option maxHeartbeats 2000000 in
set_option maxRecDepth 100000 in
theorem lw_c0 {p : Program} {l : Launch} {e : Env} {s : State} {m : MethodId} {below : List Frame} {meth : Method} {c : Code} {b L : Nat} {xs : Nat → Int32} {D : va_G} {cA : Nat → ClassId} {x m0 : Nat} {Q : State → Prop} (C0 : lw_At p s m meth c b L xs) (hL : L ≤ 4608) (hK : kk D cA s) {i cells slots : Nat} {MA MB : mp} {H : Heap} {locs : List Loc} {ls : Array Slot} (hi : 9 * i + 9 ≤ L) (hc : cells + 27 ≤ 600000) (hs9 : slots + 2178 ≤ 7302250) (hh : h2 D s.heap MA MB H locs) (hI : lwI cA MA MB x m0) (hl : lv_has ls 4 [(0, .ref b), (1, .ref x), (2, .ref m0), (3, .int (nI (9 * i)))]) (kont : ∀ (MA1 MB1 : mp) (H1 : Heap) (locs1 : List Loc) (ls : Array Slot), lv_has ls 4 [(0, .ref b), (1, .ref x), (2, .ref m0), (3, .int (nI (9 * i)))] → h2 D s.heap MA1 MB1 H1 locs1 → lwI cA MA1 MB1 x m0 → W p l e room_1 s m #[Value.ref b] below meth c H1 locs1 (cells + 27) (slots + 2178) Q (F0 m 1474 ls [])) : W p l e room_1 s m #[Value.ref b] below meth c H locs cells slots Q (F0 m 124 ls []) := by
  obtain ⟨hx, hb, hr, hml, hown, hts, hX, hbl, hlocks, hgv⟩ := C0
  have hb : c.code = cL_law := hb
  have hown : s.vm.findClass RL = some m.cls := hown
  have hbA : ¬ (fun q : Nat => s.heap.size ≤ q) b := Nat.not_le.mpr hbl
  have htl : ∀ w ∈ wsL_law, w.before #[Value.ref b] s = true := fun w h => hts w (wsL_law_in w h)
  obtain ⟨g, t, mv, mi, hs, wh, ma, fa, hBI, hcl, hrf⟩ := hI
  obtain ⟨J, P, TG, GO, SG, BG, TM, SM, PH, WM, MT, WF, hx0, hJD, hpw⟩ := id hcl
  obtain ⟨fb, ra, wn, ov, th, it, td, hp, bd, fl, v, fh, fb2, ff, hA, hv8, hv9, hv10, hv11, hfh, hfb, hff⟩ := id hrf
  obtain ⟨hR, ⟨hu0, hu1, hu3, hu4, hu5, hu6, hu7, hu12, hu13, hu14⟩, ⟨f, hfb0, hfib⟩, ⟨f0, hrw⟩, hRT, ⟨fd, htd⟩, hhp, hbd, hfl⟩ := id hA
  refine lv_aload_n hx hb dL_law_124 rfl (lv_at hl 1 rfl) ?_
  refine lv_aload_n hx hb dL_law_125 rfl (lv_at hl 0 rfl) ?_
  refine lv_iload_n hx hb dL_law_126 rfl (lv_at hl 3 rfl) ?_
  refine lv_iconst (v := 1) hx hb dL_law_127 (by decide) ?_
  refine lv_iadd hx hb dL_law_128 ?_
  refine tpi (x' := nI (9 * i + 1)) (nI_add _ 1) ?_
  refine m_sldN (k := 9 * i + 1) hx hb hX hbl hbA hh.S rfl (by omega) (by omega) dL_law_129 ?_
  refine lv_i2l hx hb dL_law_130 rfl ?_
  refine lv_bipush (v := 32) hx hb dL_law_131 (by decide) ?_
  refine lv_lshl hx hb dL_law_133 rfl ?_
  refine lv_aload_n hx hb dL_law_134 rfl (lv_at hl 0 rfl) ?_
  refine lv_iload_n hx hb dL_law_135 rfl (lv_at hl 3 rfl) ?_
  refine lv_iconst (v := 2) hx hb dL_law_136 (by decide) ?_
  refine lv_iadd hx hb dL_law_137 ?_
  refine tpi (x' := nI (9 * i + 2)) (nI_add _ 2) ?_
  refine m_sldN (k := 9 * i + 2) hx hb hX hbl hbA hh.S rfl (by omega) (by omega) dL_law_138 ?_
  refine lv_i2l hx hb dL_law_139 rfl ?_
  refine lv_ldc2 hx hb hown (htl _ wl_cst) dL_law_140 ?_
  refine lv_land hx hb dL_law_143 ?_
  refine lv_lor hx hb dL_law_144 ?_
  refine tpl (x' := lgV (xs (9 * i + 1)) (xs (9 * i + 2))) (rfl) ?_
  refine lv_aload_n hx hb dL_law_145 rfl (lv_at hl 0 rfl) ?_
  refine lv_iload_n hx hb dL_law_146 rfl (lv_at hl 3 rfl) ?_
  refine lv_iconst (v := 3) hx hb dL_law_147 (by decide) ?_
  refine lv_iadd hx hb dL_law_148 ?_
  refine tpi (x' := nI (9 * i + 3)) (nI_add _ 3) ?_
  refine m_sldN (k := 9 * i + 3) hx hb hX hbl hbA hh.S rfl (by omega) (by omega) dL_law_149 ?_
  refine lv_i2l hx hb dL_law_150 rfl ?_
  refine lv_bipush (v := 32) hx hb dL_law_151 (by decide) ?_
  refine lv_lshl hx hb dL_law_153 rfl ?_
  refine lv_aload_n hx hb dL_law_154 rfl (lv_at hl 0 rfl) ?_
  refine lv_iload_n hx hb dL_law_155 rfl (lv_at hl 3 rfl) ?_
  refine lv_iconst (v := 4) hx hb dL_law_156 (by decide) ?_
  refine lv_iadd hx hb dL_law_157 ?_
  refine tpi (x' := nI (9 * i + 4)) (nI_add _ 4) ?_
  refine m_sldN (k := 9 * i + 4) hx hb hX hbl hbA hh.S rfl (by omega) (by omega) dL_law_158 ?_
  refine lv_i2l hx hb dL_law_159 rfl ?_
  refine lv_ldc2 hx hb hown (htl _ wl_cst) dL_law_160 ?_
  refine lv_land hx hb dL_law_163 ?_
  refine lv_lor hx hb dL_law_164 ?_
  refine tpl (x' := lgV (xs (9 * i + 3)) (xs (9 * i + 4))) (rfl) ?_
  refine cpV (As := [.long (lgV (xs (9 * i + 1)) (xs (9 * i + 2))), .long (lgV (xs (9 * i + 3)) (xs (9 * i + 4)))]) (rest := []) (k_X8_shares l D cA MA x J P TG GO SG BG TM (lgV (xs (9 * i + 1)) (xs (9 * i + 2))) (lgV (xs (9 * i + 3)) (xs (9 * i + 4))) hx0 hJD.1) ⟨hx, hb, hml, hown, htl⟩ (cwV 2 htl gL_law_X8_shares rfl rfl rfl (by decide +kernel) ⟨Nat.le_of_ble_eq_true rfl, Nat.le_of_ble_eq_true rfl⟩) hK hh.1.1 hx0 rfl rfl hl.1 rfl (Nat.le_of_ble_eq_true rfl) dL_law_165 ⟨by show _ ≤ 600000; omega, by show _ ≤ 7302250; omega⟩ ?_
  refine lv_aload_n hx hb dL_law_168 rfl (lv_at hl 2 rfl) ?_
  refine lv_aload_n hx hb dL_law_169 rfl (lv_at hl 0 rfl) ?_
  refine lv_iload_n hx hb dL_law_170 rfl (lv_at hl 3 rfl) ?_
  refine lv_iconst (v := 1) hx hb dL_law_171 (by decide) ?_
  refine lv_iadd hx hb dL_law_172 ?_
  refine tpi (x' := nI (9 * i + 1)) (nI_add _ 1) ?_
  refine m_sldN (k := 9 * i + 1) hx hb hX hbl hbA hh.S rfl (by omega) (by omega) dL_law_173 ?_
  refine lv_i2l hx hb dL_law_174 rfl ?_
  refine lv_bipush (v := 32) hx hb dL_law_175 (by decide) ?_
  refine lv_lshl hx hb dL_law_177 rfl ?_
  refine lv_aload_n hx hb dL_law_178 rfl (lv_at hl 0 rfl) ?_
  refine lv_iload_n hx hb dL_law_179 rfl (lv_at hl 3 rfl) ?_
  refine lv_iconst (v := 2) hx hb dL_law_180 (by decide) ?_
  refine lv_iadd hx hb dL_law_181 ?_
  refine tpi (x' := nI (9 * i + 2)) (nI_add _ 2) ?_
  refine m_sldN (k := 9 * i + 2) hx hb hX hbl hbA hh.S rfl (by omega) (by omega) dL_law_182 ?_
  refine lv_i2l hx hb dL_law_183 rfl ?_
  refine lv_ldc2 hx hb hown (htl _ wl_cst) dL_law_184 ?_
  refine lv_land hx hb dL_law_187 ?_
  refine lv_lor hx hb dL_law_188 ?_
  refine tpl (x' := lgV (xs (9 * i + 1)) (xs (9 * i + 2))) (rfl) ?_
  refine lv_aload_n hx hb dL_law_189 rfl (lv_at hl 0 rfl) ?_
  refine lv_iload_n hx hb dL_law_190 rfl (lv_at hl 3 rfl) ?_
  refine lv_iconst (v := 3) hx hb dL_law_191 (by decide) ?_
  refine lv_iadd hx hb dL_law_192 ?_
  refine tpi (x' := nI (9 * i + 3)) (nI_add _ 3) ?_
  refine m_sldN (k := 9 * i + 3) hx hb hX hbl hbA hh.S rfl (by omega) (by omega) dL_law_193 ?_
  refine lv_i2l hx hb dL_law_194 rfl ?_
  refine lv_bipush (v := 32) hx hb dL_law_195 (by decide) ?_
  refine lv_lshl hx hb dL_law_197 rfl ?_
  refine lv_aload_n hx hb dL_law_198 rfl (lv_at hl 0 rfl) ?_
  refine lv_iload_n hx hb dL_law_199 rfl (lv_at hl 3 rfl) ?_
  refine lv_iconst (v := 4) hx hb dL_law_200 (by decide) ?_
  refine lv_iadd hx hb dL_law_201 ?_
  refine tpi (x' := nI (9 * i + 4)) (nI_add _ 4) ?_
  refine m_sldN (k := 9 * i + 4) hx hb hX hbl hbA hh.S rfl (by omega) (by omega) dL_law_202 ?_
  refine lv_i2l hx hb dL_law_203 rfl ?_
  refine lv_ldc2 hx hb hown (htl _ wl_cst) dL_law_204 ?_
  refine lv_land hx hb dL_law_207 ?_
  refine lv_lor hx hb dL_law_208 ?_
  refine tpl (x' := lgV (xs (9 * i + 3)) (xs (9 * i + 4))) (rfl) ?_
  refine cpV (As := [.long (lgV (xs (9 * i + 1)) (xs (9 * i + 2))), .long (lgV (xs (9 * i + 3)) (xs (9 * i + 4)))]) (rest := [.int (shV (lgV (xs (9 * i + 1)) (xs (9 * i + 2))) (lgV (xs (9 * i + 3)) (xs (9 * i + 4))))]) (k_X9_shares l D cA MB m0 (lgV (xs (9 * i + 1)) (xs (9 * i + 2))) (lgV (xs (9 * i + 3)) (xs (9 * i + 4)))) ⟨hx, hb, hml, hown, htl⟩ (cwV 2 htl gL_law_X9_shares rfl rfl rfl (by decide +kernel) ⟨Nat.le_of_ble_eq_true rfl, Nat.le_of_ble_eq_true rfl⟩) hK hh.2.1.1 hR rfl rfl hl.1 rfl (Nat.le_of_ble_eq_true rfl) dL_law_209 ⟨by show _ ≤ 600000; omega, by show _ ≤ 7302250; omega⟩ ?_
  refine bi_eq (tgt := 1474) hx hb dL_law_212 (by decide) (fun c_212 n_212 => ?_) (fun c_212 n_212 => ?_)
  · skip
    refine W.widen (k := cells + 27) (n := slots + 2178) (by omega) (by omega) ?_
    exact kont _ _ _ _ _ hl hh ⟨g, t, mv, mi, hs, wh, ma, fa, hBI, hcl, hrf⟩
  · exact absurd rfl c_212
set_option maxHeartbeats 2000000 in
set_option maxRecDepth 100000 in
theorem lw_c1 {p : Program} {l : Launch} {e : Env} {s : State} {m : MethodId} {below : List Frame} {meth : Method} {c : Code} {b L : Nat} {xs : Nat → Int32} {D : va_G} {cA : Nat → ClassId} {x m0 : Nat} {Q : State → Prop} (C0 : lw_At p s m meth c b L xs) (hL : L ≤ 4608) (hK : kk D cA s) {i cells slots : Nat} {MA MB : mp} {H : Heap} {locs : List Loc} {ls : Array Slot} (hi : 9 * i + 9 ≤ L) (hc : cells + 27 ≤ 600000) (hs9 : slots + 2178 ≤ 7302250) (hh : h2 D s.heap MA MB H locs) (hI : lwI cA MA MB x m0) (hl : lv_has ls 4 [(0, .ref b), (1, .ref x), (2, .ref m0), (3, .int (nI (9 * i)))]) (kont : ∀ (MA1 MB1 : mp) (H1 : Heap) (locs1 : List Loc) (ls : Array Slot), lv_has ls 4 [(0, .ref b), (1, .ref x), (2, .ref m0), (3, .int (nI (9 * i)))] → h2 D s.heap MA1 MB1 H1 locs1 → lwI cA MA1 MB1 x m0 → W p l e room_1 s m #[Value.ref b] below meth c H1 locs1 (cells + 27) (slots + 2178) Q (F0 m 1474 ls [])) : W p l e room_1 s m #[Value.ref b] below meth c H locs cells slots Q (F0 m 217 ls []) := by
  obtain ⟨hx, hb, hr, hml, hown, hts, hX, hbl, hlocks, hgv⟩ := C0
  have hb : c.code = cL_law := hb
  have hown : s.vm.findClass RL = some m.cls := hown
  have hbA : ¬ (fun q : Nat => s.heap.size ≤ q) b := Nat.not_le.mpr hbl
  have htl : ∀ w ∈ wsL_law, w.before #[Value.ref b] s = true := fun w h => hts w (wsL_law_in w h)
  obtain ⟨g, t, mv, mi, hs, wh, ma, fa, hBI, hcl, hrf⟩ := hI
  obtain ⟨J, P, TG, GO, SG, BG, TM, SM, PH, WM, MT, WF, hx0, hJD, hpw⟩ := id hcl
  obtain ⟨fb, ra, wn, ov, th, it, td, hp, bd, fl, v, fh, fb2, ff, hA, hv8, hv9, hv10, hv11, hfh, hfb, hff⟩ := id hrf
  obtain ⟨hR, ⟨hu0, hu1, hu3, hu4, hu5, hu6, hu7, hu12, hu13, hu14⟩, ⟨f, hfb0, hfib⟩, ⟨f0, hrw⟩, hRT, ⟨fd, htd⟩, hhp, hbd, hfl⟩ := id hA
  refine lv_aload_n hx hb dL_law_217 rfl (lv_at hl 1 rfl) ?_
  refine lv_aload_n hx hb dL_law_218 rfl (lv_at hl 0 rfl) ?_
  refine lv_iload_n hx hb dL_law_219 rfl (lv_at hl 3 rfl) ?_
  refine lv_iconst (v := 1) hx hb dL_law_220 (by decide) ?_
  refine lv_iadd hx hb dL_law_221 ?_
  refine tpi (x' := nI (9 * i + 1)) (nI_add _ 1) ?_
  refine m_sldN (k := 9 * i + 1) hx hb hX hbl hbA hh.S rfl (by omega) (by omega) dL_law_222 ?_
  refine lv_i2l hx hb dL_law_223 rfl ?_
  refine lv_bipush (v := 32) hx hb dL_law_224 (by decide) ?_
  refine lv_lshl hx hb dL_law_226 rfl ?_
  refine lv_aload_n hx hb dL_law_227 rfl (lv_at hl 0 rfl) ?_
  refine lv_iload_n hx hb dL_law_228 rfl (lv_at hl 3 rfl) ?_
  refine lv_iconst (v := 2) hx hb dL_law_229 (by decide) ?_
  refine lv_iadd hx hb dL_law_230 ?_
  refine tpi (x' := nI (9 * i + 2)) (nI_add _ 2) ?_
  refine m_sldN (k := 9 * i + 2) hx hb hX hbl hbA hh.S rfl (by omega) (by omega) dL_law_231 ?_
  refine lv_i2l hx hb dL_law_232 rfl ?_
  refine lv_ldc2 hx hb hown (htl _ wl_cst) dL_law_233 ?_
  refine lv_land hx hb dL_law_236 ?_
  refine lv_lor hx hb dL_law_237 ?_
  refine tpl (x' := lgV (xs (9 * i + 1)) (xs (9 * i + 2))) (rfl) ?_
  refine lv_aload_n hx hb dL_law_238 rfl (lv_at hl 0 rfl) ?_
  refine lv_iload_n hx hb dL_law_239 rfl (lv_at hl 3 rfl) ?_
  refine lv_iconst (v := 3) hx hb dL_law_240 (by decide) ?_
  refine lv_iadd hx hb dL_law_241 ?_
  refine tpi (x' := nI (9 * i + 3)) (nI_add _ 3) ?_
  refine m_sldN (k := 9 * i + 3) hx hb hX hbl hbA hh.S rfl (by omega) (by omega) dL_law_242 ?_
  refine lv_i2l hx hb dL_law_243 rfl ?_
  refine lv_bipush (v := 32) hx hb dL_law_244 (by decide) ?_
  refine lv_lshl hx hb dL_law_246 rfl ?_
  refine lv_aload_n hx hb dL_law_247 rfl (lv_at hl 0 rfl) ?_
  refine lv_iload_n hx hb dL_law_248 rfl (lv_at hl 3 rfl) ?_
  refine lv_iconst (v := 4) hx hb dL_law_249 (by decide) ?_
  refine lv_iadd hx hb dL_law_250 ?_
  refine tpi (x' := nI (9 * i + 4)) (nI_add _ 4) ?_
  refine m_sldN (k := 9 * i + 4) hx hb hX hbl hbA hh.S rfl (by omega) (by omega) dL_law_251 ?_
  refine lv_i2l hx hb dL_law_252 rfl ?_
  refine lv_ldc2 hx hb hown (htl _ wl_cst) dL_law_253 ?_
  refine lv_land hx hb dL_law_256 ?_
  refine lv_lor hx hb dL_law_257 ?_
  refine tpl (x' := lgV (xs (9 * i + 3)) (xs (9 * i + 4))) (rfl) ?_
  refine cpV (As := [.long (lgV (xs (9 * i + 1)) (xs (9 * i + 2))), .long (lgV (xs (9 * i + 3)) (xs (9 * i + 4)))]) (rest := []) (k_X8_sharesMove l D cA MA x J P TG GO SG BG TM (lgV (xs (9 * i + 1)) (xs (9 * i + 2))) (lgV (xs (9 * i + 3)) (xs (9 * i + 4))) hx0 hJD.1) ⟨hx, hb, hml, hown, htl⟩ (cwV 2 htl gL_law_X8_sharesMove rfl rfl rfl (by decide +kernel) ⟨Nat.le_of_ble_eq_true rfl, Nat.le_of_ble_eq_true rfl⟩) hK hh.1.1 hx0 rfl rfl hl.1 rfl (Nat.le_of_ble_eq_true rfl) dL_law_258 ⟨by show _ ≤ 600000; omega, by show _ ≤ 7302250; omega⟩ ?_
  refine lv_aload_n hx hb dL_law_261 rfl (lv_at hl 2 rfl) ?_
  refine lv_aload_n hx hb dL_law_262 rfl (lv_at hl 0 rfl) ?_
  refine lv_iload_n hx hb dL_law_263 rfl (lv_at hl 3 rfl) ?_
  refine lv_iconst (v := 1) hx hb dL_law_264 (by decide) ?_
  refine lv_iadd hx hb dL_law_265 ?_
  refine tpi (x' := nI (9 * i + 1)) (nI_add _ 1) ?_
  refine m_sldN (k := 9 * i + 1) hx hb hX hbl hbA hh.S rfl (by omega) (by omega) dL_law_266 ?_
  refine lv_i2l hx hb dL_law_267 rfl ?_
  refine lv_bipush (v := 32) hx hb dL_law_268 (by decide) ?_
  refine lv_lshl hx hb dL_law_270 rfl ?_
  refine lv_aload_n hx hb dL_law_271 rfl (lv_at hl 0 rfl) ?_
  refine lv_iload_n hx hb dL_law_272 rfl (lv_at hl 3 rfl) ?_
  refine lv_iconst (v := 2) hx hb dL_law_273 (by decide) ?_
  refine lv_iadd hx hb dL_law_274 ?_
  refine tpi (x' := nI (9 * i + 2)) (nI_add _ 2) ?_
  refine m_sldN (k := 9 * i + 2) hx hb hX hbl hbA hh.S rfl (by omega) (by omega) dL_law_275 ?_
  refine lv_i2l hx hb dL_law_276 rfl ?_
  refine lv_ldc2 hx hb hown (htl _ wl_cst) dL_law_277 ?_
  refine lv_land hx hb dL_law_280 ?_
  refine lv_lor hx hb dL_law_281 ?_
  refine tpl (x' := lgV (xs (9 * i + 1)) (xs (9 * i + 2))) (rfl) ?_
  refine lv_aload_n hx hb dL_law_282 rfl (lv_at hl 0 rfl) ?_
  refine lv_iload_n hx hb dL_law_283 rfl (lv_at hl 3 rfl) ?_
  refine lv_iconst (v := 3) hx hb dL_law_284 (by decide) ?_
  refine lv_iadd hx hb dL_law_285 ?_
  refine tpi (x' := nI (9 * i + 3)) (nI_add _ 3) ?_
  refine m_sldN (k := 9 * i + 3) hx hb hX hbl hbA hh.S rfl (by omega) (by omega) dL_law_286 ?_
  refine lv_i2l hx hb dL_law_287 rfl ?_
  refine lv_bipush (v := 32) hx hb dL_law_288 (by decide) ?_
  refine lv_lshl hx hb dL_law_290 rfl ?_
  refine lv_aload_n hx hb dL_law_291 rfl (lv_at hl 0 rfl) ?_
  refine lv_iload_n hx hb dL_law_292 rfl (lv_at hl 3 rfl) ?_
  refine lv_iconst (v := 4) hx hb dL_law_293 (by decide) ?_
  refine lv_iadd hx hb dL_law_294 ?_
  refine tpi (x' := nI (9 * i + 4)) (nI_add _ 4) ?_
  refine m_sldN (k := 9 * i + 4) hx hb hX hbl hbA hh.S rfl (by omega) (by omega) dL_law_295 ?_
  refine lv_i2l hx hb dL_law_296 rfl ?_
  refine lv_ldc2 hx hb hown (htl _ wl_cst) dL_law_297 ?_
  refine lv_land hx hb dL_law_300 ?_
  refine lv_lor hx hb dL_law_301 ?_
  refine tpl (x' := lgV (xs (9 * i + 3)) (xs (9 * i + 4))) (rfl) ?_
  refine cpV (As := [.long (lgV (xs (9 * i + 1)) (xs (9 * i + 2))), .long (lgV (xs (9 * i + 3)) (xs (9 * i + 4)))]) (rest := [.long (smV (lgV (xs (9 * i + 1)) (xs (9 * i + 2))) (lgV (xs (9 * i + 3)) (xs (9 * i + 4))))]) (k_X9_sharesMove l D cA MB m0 (lgV (xs (9 * i + 1)) (xs (9 * i + 2))) (lgV (xs (9 * i + 3)) (xs (9 * i + 4)))) ⟨hx, hb, hml, hown, htl⟩ (cwV 2 htl gL_law_X9_sharesMove rfl rfl rfl (by decide +kernel) ⟨Nat.le_of_ble_eq_true rfl, Nat.le_of_ble_eq_true rfl⟩) hK hh.2.1.1 hR rfl rfl hl.1 rfl (Nat.le_of_ble_eq_true rfl) dL_law_302 ⟨by show _ ≤ 600000; omega, by show _ ≤ 7302250; omega⟩ ?_
  refine bl_eq (tgt := 1474) hx hb dL_law_305 dL_law_306 (by decide) (fun c_306 n_306 => ?_) (fun c_306 n_306 => ?_)
  · skip
    refine W.widen (k := cells + 27) (n := slots + 2178) (by omega) (by omega) ?_
    exact kont _ _ _ _ _ hl hh ⟨g, t, mv, mi, hs, wh, ma, fa, hBI, hcl, hrf⟩
  · exact absurd rfl c_306
set_option maxHeartbeats 2000000 in
set_option maxRecDepth 100000 in
theorem lw_c2 {p : Program} {l : Launch} {e : Env} {s : State} {m : MethodId} {below : List Frame} {meth : Method} {c : Code} {b L : Nat} {xs : Nat → Int32} {D : va_G} {cA : Nat → ClassId} {x m0 : Nat} {Q : State → Prop} (C0 : lw_At p s m meth c b L xs) (hL : L ≤ 4608) (hK : kk D cA s) {i cells slots : Nat} {MA MB : mp} {H : Heap} {locs : List Loc} {ls : Array Slot} (hi : 9 * i + 9 ≤ L) (hc : cells + 27 ≤ 600000) (hs9 : slots + 2178 ≤ 7302250) (hh : h2 D s.heap MA MB H locs) (hI : lwI cA MA MB x m0) (hl : lv_has ls 4 [(0, .ref b), (1, .ref x), (2, .ref m0), (3, .int (nI (9 * i)))]) (kont : ∀ (MA1 MB1 : mp) (H1 : Heap) (locs1 : List Loc) (ls : Array Slot), lv_has ls 4 [(0, .ref b), (1, .ref x), (2, .ref m0), (3, .int (nI (9 * i)))] → h2 D s.heap MA1 MB1 H1 locs1 → lwI cA MA1 MB1 x m0 → W p l e room_1 s m #[Value.ref b] below meth c H1 locs1 (cells + 27) (slots + 2178) Q (F0 m 1474 ls [])) : W p l e room_1 s m #[Value.ref b] below meth c H locs cells slots Q (F0 m 311 ls []) := by
  obtain ⟨hx, hb, hr, hml, hown, hts, hX, hbl, hlocks, hgv⟩ := C0
  have hb : c.code = cL_law := hb
  have hown : s.vm.findClass RL = some m.cls := hown
  have hbA : ¬ (fun q : Nat => s.heap.size ≤ q) b := Nat.not_le.mpr hbl
  have htl : ∀ w ∈ wsL_law, w.before #[Value.ref b] s = true := fun w h => hts w (wsL_law_in w h)
  obtain ⟨g, t, mv, mi, hs, wh, ma, fa, hBI, hcl, hrf⟩ := hI
  obtain ⟨J, P, TG, GO, SG, BG, TM, SM, PH, WM, MT, WF, hx0, hJD, hpw⟩ := id hcl
  obtain ⟨fb, ra, wn, ov, th, it, td, hp, bd, fl, v, fh, fb2, ff, hA, hv8, hv9, hv10, hv11, hfh, hfb, hff⟩ := id hrf
  obtain ⟨hR, ⟨hu0, hu1, hu3, hu4, hu5, hu6, hu7, hu12, hu13, hu14⟩, ⟨f, hfb0, hfib⟩, ⟨f0, hrw⟩, hRT, ⟨fd, htd⟩, hhp, hbd, hfl⟩ := id hA
  refine lv_aload_n hx hb dL_law_311 rfl (lv_at hl 1 rfl) ?_
  refine lv_aload_n hx hb dL_law_312 rfl (lv_at hl 0 rfl) ?_
  refine lv_iload_n hx hb dL_law_313 rfl (lv_at hl 3 rfl) ?_
  refine lv_iconst (v := 1) hx hb dL_law_314 (by decide) ?_
  refine lv_iadd hx hb dL_law_315 ?_
  refine tpi (x' := nI (9 * i + 1)) (nI_add _ 1) ?_
  refine m_sldN (k := 9 * i + 1) hx hb hX hbl hbA hh.S rfl (by omega) (by omega) dL_law_316 ?_
  refine lv_i2l hx hb dL_law_317 rfl ?_
  refine lv_bipush (v := 32) hx hb dL_law_318 (by decide) ?_
  refine lv_lshl hx hb dL_law_320 rfl ?_
  refine lv_aload_n hx hb dL_law_321 rfl (lv_at hl 0 rfl) ?_
  refine lv_iload_n hx hb dL_law_322 rfl (lv_at hl 3 rfl) ?_
  refine lv_iconst (v := 2) hx hb dL_law_323 (by decide) ?_
  refine lv_iadd hx hb dL_law_324 ?_
  refine tpi (x' := nI (9 * i + 2)) (nI_add _ 2) ?_
  refine m_sldN (k := 9 * i + 2) hx hb hX hbl hbA hh.S rfl (by omega) (by omega) dL_law_325 ?_
  refine lv_i2l hx hb dL_law_326 rfl ?_
  refine lv_ldc2 hx hb hown (htl _ wl_cst) dL_law_327 ?_
  refine lv_land hx hb dL_law_330 ?_
  refine lv_lor hx hb dL_law_331 ?_
  refine tpl (x' := lgV (xs (9 * i + 1)) (xs (9 * i + 2))) (rfl) ?_
  refine lv_aload_n hx hb dL_law_332 rfl (lv_at hl 0 rfl) ?_
  refine lv_iload_n hx hb dL_law_333 rfl (lv_at hl 3 rfl) ?_
  refine lv_iconst (v := 3) hx hb dL_law_334 (by decide) ?_
  refine lv_iadd hx hb dL_law_335 ?_
  refine tpi (x' := nI (9 * i + 3)) (nI_add _ 3) ?_
  refine m_sldN (k := 9 * i + 3) hx hb hX hbl hbA hh.S rfl (by omega) (by omega) dL_law_336 ?_
  refine lv_i2l hx hb dL_law_337 rfl ?_
  refine lv_bipush (v := 32) hx hb dL_law_338 (by decide) ?_
  refine lv_lshl hx hb dL_law_340 rfl ?_
  refine lv_aload_n hx hb dL_law_341 rfl (lv_at hl 0 rfl) ?_
  refine lv_iload_n hx hb dL_law_342 rfl (lv_at hl 3 rfl) ?_
  refine lv_iconst (v := 4) hx hb dL_law_343 (by decide) ?_
  refine lv_iadd hx hb dL_law_344 ?_
  refine tpi (x' := nI (9 * i + 4)) (nI_add _ 4) ?_
  refine m_sldN (k := 9 * i + 4) hx hb hX hbl hbA hh.S rfl (by omega) (by omega) dL_law_345 ?_
  refine lv_i2l hx hb dL_law_346 rfl ?_
  refine lv_ldc2 hx hb hown (htl _ wl_cst) dL_law_347 ?_
  refine lv_land hx hb dL_law_350 ?_
  refine lv_lor hx hb dL_law_351 ?_
  refine tpl (x' := lgV (xs (9 * i + 3)) (xs (9 * i + 4))) (rfl) ?_
  refine cpV (As := [.long (lgV (xs (9 * i + 1)) (xs (9 * i + 2))), .long (lgV (xs (9 * i + 3)) (xs (9 * i + 4)))]) (rest := []) (k_X8_both l D cA MA x J P TG GO SG BG TM (lgV (xs (9 * i + 1)) (xs (9 * i + 2))) (lgV (xs (9 * i + 3)) (xs (9 * i + 4))) hx0 hJD.1) ⟨hx, hb, hml, hown, htl⟩ (cwV 2 htl gL_law_X8_both rfl rfl rfl (by decide +kernel) ⟨Nat.le_of_ble_eq_true rfl, Nat.le_of_ble_eq_true rfl⟩) hK hh.1.1 hx0 rfl rfl hl.1 rfl (Nat.le_of_ble_eq_true rfl) dL_law_352 ⟨by show _ ≤ 600000; omega, by show _ ≤ 7302250; omega⟩ ?_
  refine lv_aload_n hx hb dL_law_355 rfl (lv_at hl 2 rfl) ?_
  refine lv_aload_n hx hb dL_law_356 rfl (lv_at hl 0 rfl) ?_
  refine lv_iload_n hx hb dL_law_357 rfl (lv_at hl 3 rfl) ?_
  refine lv_iconst (v := 1) hx hb dL_law_358 (by decide) ?_
  refine lv_iadd hx hb dL_law_359 ?_
  refine tpi (x' := nI (9 * i + 1)) (nI_add _ 1) ?_
  refine m_sldN (k := 9 * i + 1) hx hb hX hbl hbA hh.S rfl (by omega) (by omega) dL_law_360 ?_
  refine lv_i2l hx hb dL_law_361 rfl ?_
  refine lv_bipush (v := 32) hx hb dL_law_362 (by decide) ?_
  refine lv_lshl hx hb dL_law_364 rfl ?_
  refine lv_aload_n hx hb dL_law_365 rfl (lv_at hl 0 rfl) ?_
  refine lv_iload_n hx hb dL_law_366 rfl (lv_at hl 3 rfl) ?_
  refine lv_iconst (v := 2) hx hb dL_law_367 (by decide) ?_
  refine lv_iadd hx hb dL_law_368 ?_
  refine tpi (x' := nI (9 * i + 2)) (nI_add _ 2) ?_
  refine m_sldN (k := 9 * i + 2) hx hb hX hbl hbA hh.S rfl (by omega) (by omega) dL_law_369 ?_
  refine lv_i2l hx hb dL_law_370 rfl ?_
  refine lv_ldc2 hx hb hown (htl _ wl_cst) dL_law_371 ?_
  refine lv_land hx hb dL_law_374 ?_
  refine lv_lor hx hb dL_law_375 ?_
  refine tpl (x' := lgV (xs (9 * i + 1)) (xs (9 * i + 2))) (rfl) ?_
  refine lv_aload_n hx hb dL_law_376 rfl (lv_at hl 0 rfl) ?_
  refine lv_iload_n hx hb dL_law_377 rfl (lv_at hl 3 rfl) ?_
  refine lv_iconst (v := 3) hx hb dL_law_378 (by decide) ?_
  refine lv_iadd hx hb dL_law_379 ?_
  refine tpi (x' := nI (9 * i + 3)) (nI_add _ 3) ?_
  refine m_sldN (k := 9 * i + 3) hx hb hX hbl hbA hh.S rfl (by omega) (by omega) dL_law_380 ?_
  refine lv_i2l hx hb dL_law_381 rfl ?_
  refine lv_bipush (v := 32) hx hb dL_law_382 (by decide) ?_
  refine lv_lshl hx hb dL_law_384 rfl ?_
  refine lv_aload_n hx hb dL_law_385 rfl (lv_at hl 0 rfl) ?_
  refine lv_iload_n hx hb dL_law_386 rfl (lv_at hl 3 rfl) ?_
  refine lv_iconst (v := 4) hx hb dL_law_387 (by decide) ?_
  refine lv_iadd hx hb dL_law_388 ?_
  refine tpi (x' := nI (9 * i + 4)) (nI_add _ 4) ?_
  refine m_sldN (k := 9 * i + 4) hx hb hX hbl hbA hh.S rfl (by omega) (by omega) dL_law_389 ?_
  refine lv_i2l hx hb dL_law_390 rfl ?_
  refine lv_ldc2 hx hb hown (htl _ wl_cst) dL_law_391 ?_
  refine lv_land hx hb dL_law_394 ?_
  refine lv_lor hx hb dL_law_395 ?_
  refine tpl (x' := lgV (xs (9 * i + 3)) (xs (9 * i + 4))) (rfl) ?_
  refine cpV (As := [.long (lgV (xs (9 * i + 1)) (xs (9 * i + 2))), .long (lgV (xs (9 * i + 3)) (xs (9 * i + 4)))]) (rest := [.int (boV (lgV (xs (9 * i + 1)) (xs (9 * i + 2))) (lgV (xs (9 * i + 3)) (xs (9 * i + 4))))]) (k_X9_both l D cA MB m0 (lgV (xs (9 * i + 1)) (xs (9 * i + 2))) (lgV (xs (9 * i + 3)) (xs (9 * i + 4))) hA.fib) ⟨hx, hb, hml, hown, htl⟩ (cwV 2 htl gL_law_X9_both rfl rfl rfl (by decide +kernel) ⟨Nat.le_of_ble_eq_true rfl, Nat.le_of_ble_eq_true rfl⟩) hK hh.2.1.1 hR rfl rfl hl.1 rfl (Nat.le_of_ble_eq_true rfl) dL_law_396 ⟨by show _ ≤ 600000; omega, by show _ ≤ 7302250; omega⟩ ?_
  refine bi_eq (tgt := 1474) hx hb dL_law_399 (by decide) (fun c_399 n_399 => ?_) (fun c_399 n_399 => ?_)
  · skip
    refine W.widen (k := cells + 27) (n := slots + 2178) (by omega) (by omega) ?_
    exact kont _ _ _ _ _ hl hh ⟨g, t, mv, mi, hs, wh, ma, fa, hBI, hcl, hrf⟩
  · exact absurd rfl c_399
set_option maxHeartbeats 2000000 in
set_option maxRecDepth 100000 in
theorem lw_c3 {p : Program} {l : Launch} {e : Env} {s : State} {m : MethodId} {below : List Frame} {meth : Method} {c : Code} {b L : Nat} {xs : Nat → Int32} {D : va_G} {cA : Nat → ClassId} {x m0 : Nat} {Q : State → Prop} (C0 : lw_At p s m meth c b L xs) (hL : L ≤ 4608) (hK : kk D cA s) {i cells slots : Nat} {MA MB : mp} {H : Heap} {locs : List Loc} {ls : Array Slot} (hi : 9 * i + 9 ≤ L) (hc : cells + 27 ≤ 600000) (hs9 : slots + 2178 ≤ 7302250) (hh : h2 D s.heap MA MB H locs) (hI : lwI cA MA MB x m0) (hl : lv_has ls 4 [(0, .ref b), (1, .ref x), (2, .ref m0), (3, .int (nI (9 * i)))]) (kont : ∀ (MA1 MB1 : mp) (H1 : Heap) (locs1 : List Loc) (ls : Array Slot), lv_has ls 4 [(0, .ref b), (1, .ref x), (2, .ref m0), (3, .int (nI (9 * i)))] → h2 D s.heap MA1 MB1 H1 locs1 → lwI cA MA1 MB1 x m0 → W p l e room_1 s m #[Value.ref b] below meth c H1 locs1 (cells + 27) (slots + 2178) Q (F0 m 1474 ls [])) : W p l e room_1 s m #[Value.ref b] below meth c H locs cells slots Q (F0 m 404 ls []) := by
  obtain ⟨hx, hb, hr, hml, hown, hts, hX, hbl, hlocks, hgv⟩ := C0
  have hb : c.code = cL_law := hb
  have hown : s.vm.findClass RL = some m.cls := hown
  have hbA : ¬ (fun q : Nat => s.heap.size ≤ q) b := Nat.not_le.mpr hbl
  have htl : ∀ w ∈ wsL_law, w.before #[Value.ref b] s = true := fun w h => hts w (wsL_law_in w h)
  obtain ⟨g, t, mv, mi, hs, wh, ma, fa, hBI, hcl, hrf⟩ := hI
  obtain ⟨J, P, TG, GO, SG, BG, TM, SM, PH, WM, MT, WF, hx0, hJD, hpw⟩ := id hcl
  obtain ⟨fb, ra, wn, ov, th, it, td, hp, bd, fl, v, fh, fb2, ff, hA, hv8, hv9, hv10, hv11, hfh, hfb, hff⟩ := id hrf
  obtain ⟨hR, ⟨hu0, hu1, hu3, hu4, hu5, hu6, hu7, hu12, hu13, hu14⟩, ⟨f, hfb0, hfib⟩, ⟨f0, hrw⟩, hRT, ⟨fd, htd⟩, hhp, hbd, hfl⟩ := id hA
  refine lv_aload_n hx hb dL_law_404 rfl (lv_at hl 1 rfl) ?_
  refine lv_aload_n hx hb dL_law_405 rfl (lv_at hl 0 rfl) ?_
  refine lv_iload_n hx hb dL_law_406 rfl (lv_at hl 3 rfl) ?_
  refine lv_iconst (v := 1) hx hb dL_law_407 (by decide) ?_
  refine lv_iadd hx hb dL_law_408 ?_
  refine tpi (x' := nI (9 * i + 1)) (nI_add _ 1) ?_
  refine m_sldN (k := 9 * i + 1) hx hb hX hbl hbA hh.S rfl (by omega) (by omega) dL_law_409 ?_
  refine lv_i2l hx hb dL_law_410 rfl ?_
  refine lv_bipush (v := 32) hx hb dL_law_411 (by decide) ?_
  refine lv_lshl hx hb dL_law_413 rfl ?_
  refine lv_aload_n hx hb dL_law_414 rfl (lv_at hl 0 rfl) ?_
  refine lv_iload_n hx hb dL_law_415 rfl (lv_at hl 3 rfl) ?_
  refine lv_iconst (v := 2) hx hb dL_law_416 (by decide) ?_
  refine lv_iadd hx hb dL_law_417 ?_
  refine tpi (x' := nI (9 * i + 2)) (nI_add _ 2) ?_
  refine m_sldN (k := 9 * i + 2) hx hb hX hbl hbA hh.S rfl (by omega) (by omega) dL_law_418 ?_
  refine lv_i2l hx hb dL_law_419 rfl ?_
  refine lv_ldc2 hx hb hown (htl _ wl_cst) dL_law_420 ?_
  refine lv_land hx hb dL_law_423 ?_
  refine lv_lor hx hb dL_law_424 ?_
  refine tpl (x' := lgV (xs (9 * i + 1)) (xs (9 * i + 2))) (rfl) ?_
  refine lv_aload_n hx hb dL_law_425 rfl (lv_at hl 0 rfl) ?_
  refine lv_iload_n hx hb dL_law_426 rfl (lv_at hl 3 rfl) ?_
  refine lv_iconst (v := 3) hx hb dL_law_427 (by decide) ?_
  refine lv_iadd hx hb dL_law_428 ?_
  refine tpi (x' := nI (9 * i + 3)) (nI_add _ 3) ?_
  refine m_sldN (k := 9 * i + 3) hx hb hX hbl hbA hh.S rfl (by omega) (by omega) dL_law_429 ?_
  refine lv_i2l hx hb dL_law_430 rfl ?_
  refine lv_bipush (v := 32) hx hb dL_law_431 (by decide) ?_
  refine lv_lshl hx hb dL_law_433 rfl ?_
  refine lv_aload_n hx hb dL_law_434 rfl (lv_at hl 0 rfl) ?_
  refine lv_iload_n hx hb dL_law_435 rfl (lv_at hl 3 rfl) ?_
  refine lv_iconst (v := 4) hx hb dL_law_436 (by decide) ?_
  refine lv_iadd hx hb dL_law_437 ?_
  refine tpi (x' := nI (9 * i + 4)) (nI_add _ 4) ?_
  refine m_sldN (k := 9 * i + 4) hx hb hX hbl hbA hh.S rfl (by omega) (by omega) dL_law_438 ?_
  refine lv_i2l hx hb dL_law_439 rfl ?_
  refine lv_ldc2 hx hb hown (htl _ wl_cst) dL_law_440 ?_
  refine lv_land hx hb dL_law_443 ?_
  refine lv_lor hx hb dL_law_444 ?_
  refine tpl (x' := lgV (xs (9 * i + 3)) (xs (9 * i + 4))) (rfl) ?_
  refine lv_aload_n hx hb dL_law_445 rfl (lv_at hl 0 rfl) ?_
  refine lv_iload_n hx hb dL_law_446 rfl (lv_at hl 3 rfl) ?_
  refine lv_iconst (v := 5) hx hb dL_law_447 (by decide) ?_
  refine lv_iadd hx hb dL_law_448 ?_
  refine tpi (x' := nI (9 * i + 5)) (nI_add _ 5) ?_
  refine m_sldN (k := 9 * i + 5) hx hb hX hbl hbA hh.S rfl (by omega) (by omega) dL_law_449 ?_
  refine cpV (As := [.long (lgV (xs (9 * i + 1)) (xs (9 * i + 2))), .long (lgV (xs (9 * i + 3)) (xs (9 * i + 4))), .int (xs (9 * i + 5))]) (rest := []) (k_X8_bothMove l D cA MA x J P TG GO SG BG TM (lgV (xs (9 * i + 1)) (xs (9 * i + 2))) (lgV (xs (9 * i + 3)) (xs (9 * i + 4))) (xs (9 * i + 5)) hx0 hJD.1) ⟨hx, hb, hml, hown, htl⟩ (cwV 3 htl gL_law_X8_bothMove rfl rfl rfl (by decide +kernel) ⟨Nat.le_of_ble_eq_true rfl, Nat.le_of_ble_eq_true rfl⟩) hK hh.1.1 hx0 rfl rfl hl.1 rfl (Nat.le_of_ble_eq_true rfl) dL_law_450 ⟨by show _ ≤ 600000; omega, by show _ ≤ 7302250; omega⟩ ?_
  refine lv_aload_n hx hb dL_law_453 rfl (lv_at hl 2 rfl) ?_
  refine lv_aload_n hx hb dL_law_454 rfl (lv_at hl 0 rfl) ?_
  refine lv_iload_n hx hb dL_law_455 rfl (lv_at hl 3 rfl) ?_
  refine lv_iconst (v := 1) hx hb dL_law_456 (by decide) ?_
  refine lv_iadd hx hb dL_law_457 ?_
  refine tpi (x' := nI (9 * i + 1)) (nI_add _ 1) ?_
  refine m_sldN (k := 9 * i + 1) hx hb hX hbl hbA hh.S rfl (by omega) (by omega) dL_law_458 ?_
  refine lv_i2l hx hb dL_law_459 rfl ?_
  refine lv_bipush (v := 32) hx hb dL_law_460 (by decide) ?_
  refine lv_lshl hx hb dL_law_462 rfl ?_
  refine lv_aload_n hx hb dL_law_463 rfl (lv_at hl 0 rfl) ?_
  refine lv_iload_n hx hb dL_law_464 rfl (lv_at hl 3 rfl) ?_
  refine lv_iconst (v := 2) hx hb dL_law_465 (by decide) ?_
  refine lv_iadd hx hb dL_law_466 ?_
  refine tpi (x' := nI (9 * i + 2)) (nI_add _ 2) ?_
  refine m_sldN (k := 9 * i + 2) hx hb hX hbl hbA hh.S rfl (by omega) (by omega) dL_law_467 ?_
  refine lv_i2l hx hb dL_law_468 rfl ?_
  refine lv_ldc2 hx hb hown (htl _ wl_cst) dL_law_469 ?_
  refine lv_land hx hb dL_law_472 ?_
  refine lv_lor hx hb dL_law_473 ?_
  refine tpl (x' := lgV (xs (9 * i + 1)) (xs (9 * i + 2))) (rfl) ?_
  refine lv_aload_n hx hb dL_law_474 rfl (lv_at hl 0 rfl) ?_
  refine lv_iload_n hx hb dL_law_475 rfl (lv_at hl 3 rfl) ?_
  refine lv_iconst (v := 3) hx hb dL_law_476 (by decide) ?_
  refine lv_iadd hx hb dL_law_477 ?_
  refine tpi (x' := nI (9 * i + 3)) (nI_add _ 3) ?_
  refine m_sldN (k := 9 * i + 3) hx hb hX hbl hbA hh.S rfl (by omega) (by omega) dL_law_478 ?_
  refine lv_i2l hx hb dL_law_479 rfl ?_
  refine lv_bipush (v := 32) hx hb dL_law_480 (by decide) ?_
  refine lv_lshl hx hb dL_law_482 rfl ?_
  refine lv_aload_n hx hb dL_law_483 rfl (lv_at hl 0 rfl) ?_
  refine lv_iload_n hx hb dL_law_484 rfl (lv_at hl 3 rfl) ?_
  refine lv_iconst (v := 4) hx hb dL_law_485 (by decide) ?_
  refine lv_iadd hx hb dL_law_486 ?_
  refine tpi (x' := nI (9 * i + 4)) (nI_add _ 4) ?_
  refine m_sldN (k := 9 * i + 4) hx hb hX hbl hbA hh.S rfl (by omega) (by omega) dL_law_487 ?_
  refine lv_i2l hx hb dL_law_488 rfl ?_
  refine lv_ldc2 hx hb hown (htl _ wl_cst) dL_law_489 ?_
  refine lv_land hx hb dL_law_492 ?_
  refine lv_lor hx hb dL_law_493 ?_
  refine tpl (x' := lgV (xs (9 * i + 3)) (xs (9 * i + 4))) (rfl) ?_
  refine lv_aload_n hx hb dL_law_494 rfl (lv_at hl 0 rfl) ?_
  refine lv_iload_n hx hb dL_law_495 rfl (lv_at hl 3 rfl) ?_
  refine lv_iconst (v := 5) hx hb dL_law_496 (by decide) ?_
  refine lv_iadd hx hb dL_law_497 ?_
  refine tpi (x' := nI (9 * i + 5)) (nI_add _ 5) ?_
  refine m_sldN (k := 9 * i + 5) hx hb hX hbl hbA hh.S rfl (by omega) (by omega) dL_law_498 ?_
  refine cmV (As := [.long (lgV (xs (9 * i + 1)) (xs (9 * i + 2))), .long (lgV (xs (9 * i + 3)) (xs (9 * i + 4))), .int (xs (9 * i + 5))]) (rest := [.long (bmV (lgV (xs (9 * i + 1)) (xs (9 * i + 2))) (lgV (xs (9 * i + 3)) (xs (9 * i + 4))) (xs (9 * i + 5)))]) (k_X9_bothMove l D cA MB m0 v fb f ra f0 (lgV (xs (9 * i + 1)) (xs (9 * i + 2))) (lgV (xs (9 * i + 3)) (xs (9 * i + 4))) (xs (9 * i + 5)) hR hu0 hfb0 hfib hu1 hrw) ⟨hx, hb, hml, hown, htl⟩ (cwV 3 htl gL_law_X9_bothMove rfl rfl rfl (by decide +kernel) ⟨Nat.le_of_ble_eq_true rfl, Nat.le_of_ble_eq_true rfl⟩) hK hh.2.1 hR rfl rfl hl.1 rfl (Nat.le_of_ble_eq_true rfl) dL_law_499 ⟨by show _ ≤ 600000; omega, by show _ ≤ 7302250; omega⟩ (fun v9 MB1 H1 locs1 hpost hh1 hz9 hk9 hn9 => ?_)
  have hh := hh.B hh1 hk9 hn9
  obtain ⟨rfl, hscr⟩ := hpost
  obtain ⟨v1, hA1, hag⟩ := hA.scr hscr
  have hrf := rf_ag hA1 hag hv8 hv9 hv10 hv11 hfh hfb hff
  refine W.eq (g2 := F0 m 502 ls [.long (bmV (lgV (xs (9 * i + 1)) (xs (9 * i + 2))) (lgV (xs (9 * i + 3)) (xs (9 * i + 4))) (xs (9 * i + 5))), .long (bmV (lgV (xs (9 * i + 1)) (xs (9 * i + 2))) (lgV (xs (9 * i + 3)) (xs (9 * i + 4))) (xs (9 * i + 5)))]) rfl ?_
  refine bl_eq (tgt := 1474) hx hb dL_law_502 dL_law_503 (by decide) (fun c_503 n_503 => ?_) (fun c_503 n_503 => ?_)
  · skip
    refine W.widen (k := cells + 27) (n := slots + 2178) (by omega) (by omega) ?_
    exact kont _ _ _ _ _ hl hh ⟨g, t, mv, mi, hs, wh, ma, fa, hBI, hcl, hrf⟩
  · exact absurd rfl c_503
set_option maxHeartbeats 2000000 in
set_option maxRecDepth 100000 in
theorem lw_c4 {p : Program} {l : Launch} {e : Env} {s : State} {m : MethodId} {below : List Frame} {meth : Method} {c : Code} {b L : Nat} {xs : Nat → Int32} {D : va_G} {cA : Nat → ClassId} {x m0 : Nat} {Q : State → Prop} (C0 : lw_At p s m meth c b L xs) (hL : L ≤ 4608) (hK : kk D cA s) {i cells slots : Nat} {MA MB : mp} {H : Heap} {locs : List Loc} {ls : Array Slot} (hi : 9 * i + 9 ≤ L) (hc : cells + 27 ≤ 600000) (hs9 : slots + 2178 ≤ 7302250) (hh : h2 D s.heap MA MB H locs) (hI : lwI cA MA MB x m0) (hl : lv_has ls 4 [(0, .ref b), (1, .ref x), (2, .ref m0), (3, .int (nI (9 * i)))]) (kont : ∀ (MA1 MB1 : mp) (H1 : Heap) (locs1 : List Loc) (ls : Array Slot), lv_has ls 4 [(0, .ref b), (1, .ref x), (2, .ref m0), (3, .int (nI (9 * i)))] → h2 D s.heap MA1 MB1 H1 locs1 → lwI cA MA1 MB1 x m0 → W p l e room_1 s m #[Value.ref b] below meth c H1 locs1 (cells + 27) (slots + 2178) Q (F0 m 1474 ls [])) : W p l e room_1 s m #[Value.ref b] below meth c H locs cells slots Q (F0 m 508 ls []) := by
  obtain ⟨hx, hb, hr, hml, hown, hts, hX, hbl, hlocks, hgv⟩ := C0
  have hb : c.code = cL_law := hb
  have hown : s.vm.findClass RL = some m.cls := hown
  have hbA : ¬ (fun q : Nat => s.heap.size ≤ q) b := Nat.not_le.mpr hbl
  have htl : ∀ w ∈ wsL_law, w.before #[Value.ref b] s = true := fun w h => hts w (wsL_law_in w h)
  obtain ⟨g, t, mv, mi, hs, wh, ma, fa, hBI, hcl, hrf⟩ := hI
  obtain ⟨J, P, TG, GO, SG, BG, TM, SM, PH, WM, MT, WF, hx0, hJD, hpw⟩ := id hcl
  obtain ⟨fb, ra, wn, ov, th, it, td, hp, bd, fl, v, fh, fb2, ff, hA, hv8, hv9, hv10, hv11, hfh, hfb, hff⟩ := id hrf
  obtain ⟨hR, ⟨hu0, hu1, hu3, hu4, hu5, hu6, hu7, hu12, hu13, hu14⟩, ⟨f, hfb0, hfib⟩, ⟨f0, hrw⟩, hRT, ⟨fd, htd⟩, hhp, hbd, hfl⟩ := id hA
  refine lv_aload_n hx hb dL_law_508 rfl (lv_at hl 1 rfl) ?_
  refine lv_aload_n hx hb dL_law_509 rfl (lv_at hl 0 rfl) ?_
  refine lv_iload_n hx hb dL_law_510 rfl (lv_at hl 3 rfl) ?_
  refine lv_iconst (v := 1) hx hb dL_law_511 (by decide) ?_
  refine lv_iadd hx hb dL_law_512 ?_
  refine tpi (x' := nI (9 * i + 1)) (nI_add _ 1) ?_
  refine m_sldN (k := 9 * i + 1) hx hb hX hbl hbA hh.S rfl (by omega) (by omega) dL_law_513 ?_
  refine lv_i2l hx hb dL_law_514 rfl ?_
  refine lv_bipush (v := 32) hx hb dL_law_515 (by decide) ?_
  refine lv_lshl hx hb dL_law_517 rfl ?_
  refine lv_aload_n hx hb dL_law_518 rfl (lv_at hl 0 rfl) ?_
  refine lv_iload_n hx hb dL_law_519 rfl (lv_at hl 3 rfl) ?_
  refine lv_iconst (v := 2) hx hb dL_law_520 (by decide) ?_
  refine lv_iadd hx hb dL_law_521 ?_
  refine tpi (x' := nI (9 * i + 2)) (nI_add _ 2) ?_
  refine m_sldN (k := 9 * i + 2) hx hb hX hbl hbA hh.S rfl (by omega) (by omega) dL_law_522 ?_
  refine lv_i2l hx hb dL_law_523 rfl ?_
  refine lv_ldc2 hx hb hown (htl _ wl_cst) dL_law_524 ?_
  refine lv_land hx hb dL_law_527 ?_
  refine lv_lor hx hb dL_law_528 ?_
  refine tpl (x' := lgV (xs (9 * i + 1)) (xs (9 * i + 2))) (rfl) ?_
  refine lv_aload_n hx hb dL_law_529 rfl (lv_at hl 0 rfl) ?_
  refine lv_iload_n hx hb dL_law_530 rfl (lv_at hl 3 rfl) ?_
  refine lv_iconst (v := 3) hx hb dL_law_531 (by decide) ?_
  refine lv_iadd hx hb dL_law_532 ?_
  refine tpi (x' := nI (9 * i + 3)) (nI_add _ 3) ?_
  refine m_sldN (k := 9 * i + 3) hx hb hX hbl hbA hh.S rfl (by omega) (by omega) dL_law_533 ?_
  refine cpV (As := [.long (lgV (xs (9 * i + 1)) (xs (9 * i + 2))), .int (xs (9 * i + 3))]) (rest := []) (k_X8_lost l D cA MA x J P TG GO SG BG TM (lgV (xs (9 * i + 1)) (xs (9 * i + 2))) (xs (9 * i + 3)) hx0 hJD.1) ⟨hx, hb, hml, hown, htl⟩ (cwV 2 htl gL_law_X8_lost rfl rfl rfl (by decide +kernel) ⟨Nat.le_of_ble_eq_true rfl, Nat.le_of_ble_eq_true rfl⟩) hK hh.1.1 hx0 rfl rfl hl.1 rfl (Nat.le_of_ble_eq_true rfl) dL_law_534 ⟨by show _ ≤ 600000; omega, by show _ ≤ 7302250; omega⟩ ?_
  refine lv_aload_n hx hb dL_law_537 rfl (lv_at hl 2 rfl) ?_
  refine lv_aload_n hx hb dL_law_538 rfl (lv_at hl 0 rfl) ?_
  refine lv_iload_n hx hb dL_law_539 rfl (lv_at hl 3 rfl) ?_
  refine lv_iconst (v := 1) hx hb dL_law_540 (by decide) ?_
  refine lv_iadd hx hb dL_law_541 ?_
  refine tpi (x' := nI (9 * i + 1)) (nI_add _ 1) ?_
  refine m_sldN (k := 9 * i + 1) hx hb hX hbl hbA hh.S rfl (by omega) (by omega) dL_law_542 ?_
  refine lv_i2l hx hb dL_law_543 rfl ?_
  refine lv_bipush (v := 32) hx hb dL_law_544 (by decide) ?_
  refine lv_lshl hx hb dL_law_546 rfl ?_
  refine lv_aload_n hx hb dL_law_547 rfl (lv_at hl 0 rfl) ?_
  refine lv_iload_n hx hb dL_law_548 rfl (lv_at hl 3 rfl) ?_
  refine lv_iconst (v := 2) hx hb dL_law_549 (by decide) ?_
  refine lv_iadd hx hb dL_law_550 ?_
  refine tpi (x' := nI (9 * i + 2)) (nI_add _ 2) ?_
  refine m_sldN (k := 9 * i + 2) hx hb hX hbl hbA hh.S rfl (by omega) (by omega) dL_law_551 ?_
  refine lv_i2l hx hb dL_law_552 rfl ?_
  refine lv_ldc2 hx hb hown (htl _ wl_cst) dL_law_553 ?_
  refine lv_land hx hb dL_law_556 ?_
  refine lv_lor hx hb dL_law_557 ?_
  refine tpl (x' := lgV (xs (9 * i + 1)) (xs (9 * i + 2))) (rfl) ?_
  refine lv_aload_n hx hb dL_law_558 rfl (lv_at hl 0 rfl) ?_
  refine lv_iload_n hx hb dL_law_559 rfl (lv_at hl 3 rfl) ?_
  refine lv_iconst (v := 3) hx hb dL_law_560 (by decide) ?_
  refine lv_iadd hx hb dL_law_561 ?_
  refine tpi (x' := nI (9 * i + 3)) (nI_add _ 3) ?_
  refine m_sldN (k := 9 * i + 3) hx hb hX hbl hbA hh.S rfl (by omega) (by omega) dL_law_562 ?_
  refine cpV (As := [.long (lgV (xs (9 * i + 1)) (xs (9 * i + 2))), .int (xs (9 * i + 3))]) (rest := [.long (loV (lgV (xs (9 * i + 1)) (xs (9 * i + 2))) (xs (9 * i + 3)))]) (k_X9_lost l D cA MB m0 (lgV (xs (9 * i + 1)) (xs (9 * i + 2))) (xs (9 * i + 3)) hA.fib) ⟨hx, hb, hml, hown, htl⟩ (cwV 2 htl gL_law_X9_lost rfl rfl rfl (by decide +kernel) ⟨Nat.le_of_ble_eq_true rfl, Nat.le_of_ble_eq_true rfl⟩) hK hh.2.1.1 hR rfl rfl hl.1 rfl (Nat.le_of_ble_eq_true rfl) dL_law_563 ⟨by show _ ≤ 600000; omega, by show _ ≤ 7302250; omega⟩ ?_
  refine bl_eq (tgt := 1474) hx hb dL_law_566 dL_law_567 (by decide) (fun c_567 n_567 => ?_) (fun c_567 n_567 => ?_)
  · skip
    refine W.widen (k := cells + 27) (n := slots + 2178) (by omega) (by omega) ?_
    exact kont _ _ _ _ _ hl hh ⟨g, t, mv, mi, hs, wh, ma, fa, hBI, hcl, hrf⟩
  · exact absurd rfl c_567
set_option maxHeartbeats 2000000 in
set_option maxRecDepth 100000 in
theorem lw_c5 {p : Program} {l : Launch} {e : Env} {s : State} {m : MethodId} {below : List Frame} {meth : Method} {c : Code} {b L : Nat} {xs : Nat → Int32} {D : va_G} {cA : Nat → ClassId} {x m0 : Nat} {Q : State → Prop} (C0 : lw_At p s m meth c b L xs) (hL : L ≤ 4608) (hK : kk D cA s) {i cells slots : Nat} {MA MB : mp} {H : Heap} {locs : List Loc} {ls : Array Slot} (hi : 9 * i + 9 ≤ L) (hc : cells + 27 ≤ 600000) (hs9 : slots + 2178 ≤ 7302250) (hh : h2 D s.heap MA MB H locs) (hI : lwI cA MA MB x m0) (hl : lv_has ls 4 [(0, .ref b), (1, .ref x), (2, .ref m0), (3, .int (nI (9 * i)))]) (kont : ∀ (MA1 MB1 : mp) (H1 : Heap) (locs1 : List Loc) (ls : Array Slot), lv_has ls 4 [(0, .ref b), (1, .ref x), (2, .ref m0), (3, .int (nI (9 * i)))] → h2 D s.heap MA1 MB1 H1 locs1 → lwI cA MA1 MB1 x m0 → W p l e room_1 s m #[Value.ref b] below meth c H1 locs1 (cells + 27) (slots + 2178) Q (F0 m 1474 ls [])) : W p l e room_1 s m #[Value.ref b] below meth c H locs cells slots Q (F0 m 572 ls []) := by
  obtain ⟨hx, hb, hr, hml, hown, hts, hX, hbl, hlocks, hgv⟩ := C0
  have hb : c.code = cL_law := hb
  have hown : s.vm.findClass RL = some m.cls := hown
  have hbA : ¬ (fun q : Nat => s.heap.size ≤ q) b := Nat.not_le.mpr hbl
  have htl : ∀ w ∈ wsL_law, w.before #[Value.ref b] s = true := fun w h => hts w (wsL_law_in w h)
  obtain ⟨g, t, mv, mi, hs, wh, ma, fa, hBI, hcl, hrf⟩ := hI
  obtain ⟨J, P, TG, GO, SG, BG, TM, SM, PH, WM, MT, WF, hx0, hJD, hpw⟩ := id hcl
  obtain ⟨fb, ra, wn, ov, th, it, td, hp, bd, fl, v, fh, fb2, ff, hA, hv8, hv9, hv10, hv11, hfh, hfb, hff⟩ := id hrf
  obtain ⟨hR, ⟨hu0, hu1, hu3, hu4, hu5, hu6, hu7, hu12, hu13, hu14⟩, ⟨f, hfb0, hfib⟩, ⟨f0, hrw⟩, hRT, ⟨fd, htd⟩, hhp, hbd, hfl⟩ := id hA
  refine lv_aload_n hx hb dL_law_572 rfl (lv_at hl 1 rfl) ?_
  refine lv_aload_n hx hb dL_law_573 rfl (lv_at hl 0 rfl) ?_
  refine lv_iload_n hx hb dL_law_574 rfl (lv_at hl 3 rfl) ?_
  refine lv_iconst (v := 1) hx hb dL_law_575 (by decide) ?_
  refine lv_iadd hx hb dL_law_576 ?_
  refine tpi (x' := nI (9 * i + 1)) (nI_add _ 1) ?_
  refine m_sldN (k := 9 * i + 1) hx hb hX hbl hbA hh.S rfl (by omega) (by omega) dL_law_577 ?_
  refine lv_i2l hx hb dL_law_578 rfl ?_
  refine lv_bipush (v := 32) hx hb dL_law_579 (by decide) ?_
  refine lv_lshl hx hb dL_law_581 rfl ?_
  refine lv_aload_n hx hb dL_law_582 rfl (lv_at hl 0 rfl) ?_
  refine lv_iload_n hx hb dL_law_583 rfl (lv_at hl 3 rfl) ?_
  refine lv_iconst (v := 2) hx hb dL_law_584 (by decide) ?_
  refine lv_iadd hx hb dL_law_585 ?_
  refine tpi (x' := nI (9 * i + 2)) (nI_add _ 2) ?_
  refine m_sldN (k := 9 * i + 2) hx hb hX hbl hbA hh.S rfl (by omega) (by omega) dL_law_586 ?_
  refine lv_i2l hx hb dL_law_587 rfl ?_
  refine lv_ldc2 hx hb hown (htl _ wl_cst) dL_law_588 ?_
  refine lv_land hx hb dL_law_591 ?_
  refine lv_lor hx hb dL_law_592 ?_
  refine tpl (x' := lgV (xs (9 * i + 1)) (xs (9 * i + 2))) (rfl) ?_
  refine lv_aload_n hx hb dL_law_593 rfl (lv_at hl 0 rfl) ?_
  refine lv_iload_n hx hb dL_law_594 rfl (lv_at hl 3 rfl) ?_
  refine lv_iconst (v := 3) hx hb dL_law_595 (by decide) ?_
  refine lv_iadd hx hb dL_law_596 ?_
  refine tpi (x' := nI (9 * i + 3)) (nI_add _ 3) ?_
  refine m_sldN (k := 9 * i + 3) hx hb hX hbl hbA hh.S rfl (by omega) (by omega) dL_law_597 ?_
  refine cpV (As := [.long (lgV (xs (9 * i + 1)) (xs (9 * i + 2))), .int (xs (9 * i + 3))]) (rest := []) (k_X8_lostOf l D cA MA x J P TG GO SG BG TM (lgV (xs (9 * i + 1)) (xs (9 * i + 2))) (xs (9 * i + 3)) hx0 hJD.1) ⟨hx, hb, hml, hown, htl⟩ (cwV 2 htl gL_law_X8_lostOf rfl rfl rfl (by decide +kernel) ⟨Nat.le_of_ble_eq_true rfl, Nat.le_of_ble_eq_true rfl⟩) hK hh.1.1 hx0 rfl rfl hl.1 rfl (Nat.le_of_ble_eq_true rfl) dL_law_598 ⟨by show _ ≤ 600000; omega, by show _ ≤ 7302250; omega⟩ ?_
  refine lv_aload_n hx hb dL_law_601 rfl (lv_at hl 2 rfl) ?_
  refine lv_aload_n hx hb dL_law_602 rfl (lv_at hl 0 rfl) ?_
  refine lv_iload_n hx hb dL_law_603 rfl (lv_at hl 3 rfl) ?_
  refine lv_iconst (v := 1) hx hb dL_law_604 (by decide) ?_
  refine lv_iadd hx hb dL_law_605 ?_
  refine tpi (x' := nI (9 * i + 1)) (nI_add _ 1) ?_
  refine m_sldN (k := 9 * i + 1) hx hb hX hbl hbA hh.S rfl (by omega) (by omega) dL_law_606 ?_
  refine lv_i2l hx hb dL_law_607 rfl ?_
  refine lv_bipush (v := 32) hx hb dL_law_608 (by decide) ?_
  refine lv_lshl hx hb dL_law_610 rfl ?_
  refine lv_aload_n hx hb dL_law_611 rfl (lv_at hl 0 rfl) ?_
  refine lv_iload_n hx hb dL_law_612 rfl (lv_at hl 3 rfl) ?_
  refine lv_iconst (v := 2) hx hb dL_law_613 (by decide) ?_
  refine lv_iadd hx hb dL_law_614 ?_
  refine tpi (x' := nI (9 * i + 2)) (nI_add _ 2) ?_
  refine m_sldN (k := 9 * i + 2) hx hb hX hbl hbA hh.S rfl (by omega) (by omega) dL_law_615 ?_
  refine lv_i2l hx hb dL_law_616 rfl ?_
  refine lv_ldc2 hx hb hown (htl _ wl_cst) dL_law_617 ?_
  refine lv_land hx hb dL_law_620 ?_
  refine lv_lor hx hb dL_law_621 ?_
  refine tpl (x' := lgV (xs (9 * i + 1)) (xs (9 * i + 2))) (rfl) ?_
  refine lv_aload_n hx hb dL_law_622 rfl (lv_at hl 0 rfl) ?_
  refine lv_iload_n hx hb dL_law_623 rfl (lv_at hl 3 rfl) ?_
  refine lv_iconst (v := 3) hx hb dL_law_624 (by decide) ?_
  refine lv_iadd hx hb dL_law_625 ?_
  refine tpi (x' := nI (9 * i + 3)) (nI_add _ 3) ?_
  refine m_sldN (k := 9 * i + 3) hx hb hX hbl hbA hh.S rfl (by omega) (by omega) dL_law_626 ?_
  refine cmV (As := [.long (lgV (xs (9 * i + 1)) (xs (9 * i + 2))), .int (xs (9 * i + 3))]) (rest := [.long (ofV (lgV (xs (9 * i + 1)) (xs (9 * i + 2))) (xs (9 * i + 3)))]) (k_X9_lostOf l D cA MB m0 v fb f ra f0 (lgV (xs (9 * i + 1)) (xs (9 * i + 2))) (xs (9 * i + 3)) hR hu0 hfb0 hfib hu1 hrw) ⟨hx, hb, hml, hown, htl⟩ (cwV 2 htl gL_law_X9_lostOf rfl rfl rfl (by decide +kernel) ⟨Nat.le_of_ble_eq_true rfl, Nat.le_of_ble_eq_true rfl⟩) hK hh.2.1 hR rfl rfl hl.1 rfl (Nat.le_of_ble_eq_true rfl) dL_law_627 ⟨by show _ ≤ 600000; omega, by show _ ≤ 7302250; omega⟩ (fun v9 MB1 H1 locs1 hpost hh1 hz9 hk9 hn9 => ?_)
  have hh := hh.B hh1 hk9 hn9
  obtain ⟨rfl, hscr⟩ := hpost
  obtain ⟨v1, hA1, hag⟩ := hA.scr hscr
  have hrf := rf_ag hA1 hag hv8 hv9 hv10 hv11 hfh hfb hff
  refine W.eq (g2 := F0 m 630 ls [.long (ofV (lgV (xs (9 * i + 1)) (xs (9 * i + 2))) (xs (9 * i + 3))), .long (ofV (lgV (xs (9 * i + 1)) (xs (9 * i + 2))) (xs (9 * i + 3)))]) rfl ?_
  refine bl_eq (tgt := 1474) hx hb dL_law_630 dL_law_631 (by decide) (fun c_631 n_631 => ?_) (fun c_631 n_631 => ?_)
  · skip
    refine W.widen (k := cells + 27) (n := slots + 2178) (by omega) (by omega) ?_
    exact kont _ _ _ _ _ hl hh ⟨g, t, mv, mi, hs, wh, ma, fa, hBI, hcl, hrf⟩
  · exact absurd rfl c_631
set_option maxHeartbeats 2000000 in
set_option maxRecDepth 100000 in
theorem lw_c6 {p : Program} {l : Launch} {e : Env} {s : State} {m : MethodId} {below : List Frame} {meth : Method} {c : Code} {b L : Nat} {xs : Nat → Int32} {D : va_G} {cA : Nat → ClassId} {x m0 : Nat} {Q : State → Prop} (C0 : lw_At p s m meth c b L xs) (hL : L ≤ 4608) (hK : kk D cA s) {i cells slots : Nat} {MA MB : mp} {H : Heap} {locs : List Loc} {ls : Array Slot} (hi : 9 * i + 9 ≤ L) (hc : cells + 27 ≤ 600000) (hs9 : slots + 2178 ≤ 7302250) (hh : h2 D s.heap MA MB H locs) (hI : lwI cA MA MB x m0) (hl : lv_has ls 4 [(0, .ref b), (1, .ref x), (2, .ref m0), (3, .int (nI (9 * i)))]) (kont : ∀ (MA1 MB1 : mp) (H1 : Heap) (locs1 : List Loc) (ls : Array Slot), lv_has ls 4 [(0, .ref b), (1, .ref x), (2, .ref m0), (3, .int (nI (9 * i)))] → h2 D s.heap MA1 MB1 H1 locs1 → lwI cA MA1 MB1 x m0 → W p l e room_1 s m #[Value.ref b] below meth c H1 locs1 (cells + 27) (slots + 2178) Q (F0 m 1474 ls [])) : W p l e room_1 s m #[Value.ref b] below meth c H locs cells slots Q (F0 m 636 ls []) := by
  obtain ⟨hx, hb, hr, hml, hown, hts, hX, hbl, hlocks, hgv⟩ := C0
  have hb : c.code = cL_law := hb
  have hown : s.vm.findClass RL = some m.cls := hown
  have hbA : ¬ (fun q : Nat => s.heap.size ≤ q) b := Nat.not_le.mpr hbl
  have htl : ∀ w ∈ wsL_law, w.before #[Value.ref b] s = true := fun w h => hts w (wsL_law_in w h)
  obtain ⟨g, t, mv, mi, hs, wh, ma, fa, hBI, hcl, hrf⟩ := hI
  obtain ⟨J, P, TG, GO, SG, BG, TM, SM, PH, WM, MT, WF, hx0, hJD, hpw⟩ := id hcl
  obtain ⟨fb, ra, wn, ov, th, it, td, hp, bd, fl, v, fh, fb2, ff, hA, hv8, hv9, hv10, hv11, hfh, hfb, hff⟩ := id hrf
  obtain ⟨hR, ⟨hu0, hu1, hu3, hu4, hu5, hu6, hu7, hu12, hu13, hu14⟩, ⟨f, hfb0, hfib⟩, ⟨f0, hrw⟩, hRT, ⟨fd, htd⟩, hhp, hbd, hfl⟩ := id hA
  refine lv_aload_n hx hb dL_law_636 rfl (lv_at hl 1 rfl) ?_
  refine lv_aload_n hx hb dL_law_637 rfl (lv_at hl 0 rfl) ?_
  refine lv_iload_n hx hb dL_law_638 rfl (lv_at hl 3 rfl) ?_
  refine lv_iconst (v := 1) hx hb dL_law_639 (by decide) ?_
  refine lv_iadd hx hb dL_law_640 ?_
  refine tpi (x' := nI (9 * i + 1)) (nI_add _ 1) ?_
  refine m_sldN (k := 9 * i + 1) hx hb hX hbl hbA hh.S rfl (by omega) (by omega) dL_law_641 ?_
  refine lv_aload_n hx hb dL_law_642 rfl (lv_at hl 0 rfl) ?_
  refine lv_iload_n hx hb dL_law_643 rfl (lv_at hl 3 rfl) ?_
  refine lv_iconst (v := 2) hx hb dL_law_644 (by decide) ?_
  refine lv_iadd hx hb dL_law_645 ?_
  refine tpi (x' := nI (9 * i + 2)) (nI_add _ 2) ?_
  refine m_sldN (k := 9 * i + 2) hx hb hX hbl hbA hh.S rfl (by omega) (by omega) dL_law_646 ?_
  refine cmV (As := [.int (xs (9 * i + 1)), .int (xs (9 * i + 2))]) (rest := []) (k_X8_row l D cA MA x J P TG GO SG BG TM SM (xs (9 * i + 1)) (xs (9 * i + 2)) hx0 hJD.1 hJD.2.1 hJD.2.2.1) ⟨hx, hb, hml, hown, htl⟩ (cwV 2 htl gL_law_X8_row rfl rfl rfl (by decide +kernel) ⟨Nat.le_of_ble_eq_true rfl, Nat.le_of_ble_eq_true rfl⟩) hK hh.1 hx0 rfl rfl hl.1 rfl (Nat.le_of_ble_eq_true rfl) dL_law_647 ⟨by show _ ≤ 600000; omega, by show _ ≤ 7302250; omega⟩ (fun v9 MA1 H1 locs1 hpost hh1 hz9 hk9 hn9 => ?_)
  have hh := hh.A hh1 hk9 hn9
  obtain ⟨rfl, hW1, hkc⟩ := hpost
  have hcl := cl_S hx0 hJD hpw hW1 hkc
  refine W.widen (k := cells + 27) (n := slots + 2178) (by omega) (by omega) ?_
  refine W.eq (g2 := F0 m 650 ls [.long (roV (xs (9 * i + 1)) (xs (9 * i + 2)))]) rfl ?_
  refine lv_aload_n hx hb dL_law_650 rfl (lv_at hl 2 rfl) ?_
  refine lv_aload_n hx hb dL_law_651 rfl (lv_at hl 0 rfl) ?_
  refine lv_iload_n hx hb dL_law_652 rfl (lv_at hl 3 rfl) ?_
  refine lv_iconst (v := 1) hx hb dL_law_653 (by decide) ?_
  refine lv_iadd hx hb dL_law_654 ?_
  refine tpi (x' := nI (9 * i + 1)) (nI_add _ 1) ?_
  refine m_sldN (k := 9 * i + 1) hx hb hX hbl hbA hh.S rfl (by omega) (by omega) dL_law_655 ?_
  refine lv_aload_n hx hb dL_law_656 rfl (lv_at hl 0 rfl) ?_
  refine lv_iload_n hx hb dL_law_657 rfl (lv_at hl 3 rfl) ?_
  refine lv_iconst (v := 2) hx hb dL_law_658 (by decide) ?_
  refine lv_iadd hx hb dL_law_659 ?_
  refine tpi (x' := nI (9 * i + 2)) (nI_add _ 2) ?_
  refine m_sldN (k := 9 * i + 2) hx hb hX hbl hbA hh.S rfl (by omega) (by omega) dL_law_660 ?_
  refine cmV (As := [.int (xs (9 * i + 1)), .int (xs (9 * i + 2))]) (rest := [.long (roV (xs (9 * i + 1)) (xs (9 * i + 2)))]) (k_X9_row l D cA MB m0 v ra f0 (xs (9 * i + 1)) (xs (9 * i + 2)) hR hu1 hrw) ⟨hx, hb, hml, hown, htl⟩ (cwV 2 htl gL_law_X9_row rfl rfl rfl (by decide +kernel) ⟨Nat.le_of_ble_eq_true rfl, Nat.le_of_ble_eq_true rfl⟩) hK hh.2.1 hR rfl rfl hl.1 rfl (Nat.le_of_ble_eq_true rfl) dL_law_661 ⟨by show _ ≤ 600000; omega, by show _ ≤ 7302250; omega⟩ (fun v9 MB1 H1 locs1 hpost hh1 hz9 hk9 hn9 => ?_)
  have hh := hh.B hh1 hk9 hn9
  obtain ⟨rfl, hscr⟩ := hpost
  obtain ⟨v1, hA1, hag⟩ := hA.scr hscr
  have hrf := rf_ag hA1 hag hv8 hv9 hv10 hv11 hfh hfb hff
  refine W.eq (g2 := F0 m 664 ls [.long (roV (xs (9 * i + 1)) (xs (9 * i + 2))), .long (roV (xs (9 * i + 1)) (xs (9 * i + 2)))]) rfl ?_
  refine bl_eq (tgt := 1474) hx hb dL_law_664 dL_law_665 (by decide) (fun c_665 n_665 => ?_) (fun c_665 n_665 => ?_)
  · skip
    exact kont _ _ _ _ _ hl hh ⟨g, t, mv, mi, hs, wh, ma, fa, hBI, hcl, hrf⟩
  · exact absurd rfl c_665
