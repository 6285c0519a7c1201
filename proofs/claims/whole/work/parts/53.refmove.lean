theorem hvT_t {g w n k : Nat} {hv : Nat → Nat} (h1 : k < hcF g) (h2 : tkF g w k = true) : hvT g w n hv k = hv k - n := if_pos ⟨h1, h2⟩
theorem hvT_f {g w n k : Nat} {hv : Nat → Nat} (h : ¬ (k < hcF g ∧ tkF g w k = true)) : hvT g w n hv k = hv k := if_neg h
set_option maxHeartbeats 1000000 in
set_option maxRecDepth 100000 in
theorem k_X9_move (l : Launch) (D : va_G) (cA : Nat → ClassId) (M : mp) (m0 fb ra wn ov th it td hp bd fl : Nat) (v : Nat → Value) (fh fb2 : Nat → Int64) (ff : Nat → Int32) (g t mv : Nat) (mi : Bool) (hv : Nat → Nat) (bv : Nat) (fcv : Nat) (w : Int32) (y : Int64)  (hA : rfA cA M m0 fb ra wn ov th it td hp bd fl v fh fb2 ff) (hv8 : v 8 = .int (nI g)) (hv9 : v 9 = .int (bI mi)) (hv10 : v 10 = .int (nI t)) (hv11 : v 11 = .int (nI mv)) (hfh : ∀ k, k < 3 → fh (3 * mv + k) = lN (hv k)) (hmv : mv ≤ 200) (hfb : fb2 mv = lN bv) (hok : okB g t mi hv) (hbv : bv ≤ 1000000000000) (hff : ff mv = nI fcv) (hfc : fcv ≤ 200)  : MC l D cA yX9_move wsX9_move 4 97 0 0 [.ref m0, .int w, .long y] M (fun r M' => (inW w.toInt64 0 (lN (wyF g - 1)) = false ∧ r = some (.int (-2)) ∧ M' = M) ∨ (inW w.toInt64 0 (lN (wyF g - 1)) = true ∧ mtF g mv hv bv (nB w) y = false ∧ r = some (.int (-3)) ∧ M' = M) ∨ (inW w.toInt64 0 (lN (wyF g - 1)) = true ∧ mtF g mv hv bv (nB w) y = true ∧ r = some (.int (if ovF g (hvT g (nB w) (nL y) hv) (bdV g t (mv + 1) ((hvT g (nB w) (nL y) hv) 0) (nL y)) then 2 else 1)) ∧ (∃ v' fh' fb' ff', rfA cA M' m0 fb ra wn ov th it td hp bd fl v' fh' fb' ff' ∧ v' 8 = .int (nI g) ∧ v' 9 = .int (bI mi) ∧ v' 10 = .int (nI t) ∧ v' 11 = .int (nI (mv + 1)) ∧ (∀ j, j < 3 * mv + 3 → fh' j = fh j) ∧ (∀ k, k < 3 → fh' (3 * (mv + 1) + k) = lN ((hvT g (nB w) (nL y) hv) k)) ∧ (∀ j, j ≤ mv → fb' j = fb2 j) ∧ fb' (mv + 1) = lN (bdV g t (mv + 1) ((hvT g (nB w) (nL y) hv) 0) (nL y)) ∧ (∀ j, j ≤ mv → ff' j = ff j) ∧ ff' (mv + 1) = nI (fcv + bN (wnF g mi t hv bv && wnF g mi t (hvT g (nB w) (nL y) hv) (bdV g t (mv + 1) ((hvT g (nB w) (nL y) hv) 0) (nL y))))) ∧ kpL M M' [m0, ra, wn, ov, th, it, hp, bd, fl])) := by
  refine MC.of (cc := cX9_move) (maxL := 8) (ret := (some .int)) (by decide) rfl (Nat.le_of_ble_eq_true rfl) ?_
  intro p e s m args below meth c Q ls B hh hl hretv hreti hretz hretl hreta
  obtain ⟨hx, hb, hown, hts, hml, hK, hin⟩ := B
  have hM := hh.1
  have hM_0 := hh.1
  have hkp : kpL M M [m0, ra, wn, ov, th, it, hp, bd, fl] := kpL.rf M _
  have hown : s.vm.findClass RX9 = some m.cls := hown
  have hl : lv_has ls 8 [(0, .ref m0), (1, .int w), (2, .long y)] := hl
  have in_X9 : ∀ w ∈ wsX90, w ∈ wsX9_move := by decide +kernel
  have fl_39 := hts (.fieldLink RX9 39 "GoldHeapsModel" "bounds" "[J") (by decide +kernel)
  have fl_144 := hts (.fieldLink RX9 144 "GoldHeapsModel" "moves" "I") (by decide +kernel)
  have fl_42 := hts (.fieldLink RX9 42 "GoldHeapsModel" "faults" "[I") (by decide +kernel)
  have fl_32 := hts (.fieldLink RX9 32 "GoldHeapsModel" "game" "I") (by decide +kernel)
  have cst_48 := hts (.constantLong RX9 48 (1000000000000)) (by decide +kernel)
  have fl_141 := hts (.fieldLink RX9 141 "GoldHeapsModel" "t" "I") (by decide +kernel)
  have fl_36 := hts (.fieldLink RX9 36 "GoldHeapsModel" "heaps" "[J") (by decide +kernel)
  have cst_136 := hts (.constantLong RX9 136 (3)) (by decide +kernel)
  have cst_46 := hts (.constantLong RX9 46 (2)) (by decide +kernel)
  obtain ⟨hR, ⟨hv0, hv1, hv3, hv4, hv5, hv6, hv7, hv12, hv13, hv14⟩, ⟨f, hfb0, hfib⟩, ⟨f0, hrw⟩, hRT, ⟨fd, htd⟩, hhp, hbd, hfl⟩ := id hA
  have hg3 := hok.1
  have hhv := hok.2.1
  have hb0_ := hhv 0
  have hb1_ := hhv 1
  have hb2_ := hhv 2
  have hwy := wy_le g
  have j_43 : ∀  (ls : Array Slot), lv_has ls 8 [(0, .ref m0), (1, .int w), (2, .long y)] → W p l e ({ frames := 4, cells := 0, slots := 0, locals := 97 } : Room) s m args below meth c s.heap [] 0 0 Q (F0 m 43 ls [.long ((lN (wyF g - 1))), .long 0, .long w.toInt64]) := by
    intro  ls  hl
    refine cpS (As := [.long w.toInt64, .long 0, .long ((lN (wyF g - 1)))]) (rest := []) (k_X9_in l D cA _ (w.toInt64) 0 (lN (wyF g - 1))) ⟨hx, hb, hml, hown, hts⟩ (va_cwS 3 hts gX9_move_X9_in rfl rfl rfl (by decide +kernel) ⟨by decide, by decide⟩) hK hM rfl hl.1 rfl (Nat.le_of_ble_eq_true rfl) dX9_move_43 ⟨by decide, by decide⟩ ?_
    refine bz_ne (tgt := 52) hx hb dX9_move_46 (by decide) (fun c_46 n_46 => ?_) (fun c_46 n_46 => ?_)
    · skip
      have h1 := bI_ne0 c_46
      obtain ⟨ew, -, hwl0⟩ := in_i32 (a := 0) (b := wyF g - 1) (by omega) h1 (by omega)
      have hw3 : nB w < wyF g := by omega
      refine lv_aload_n hx hb dX9_move_52 rfl (lv_at hl 0 rfl) ?_
      refine lv_iload_n hx hb dX9_move_53 rfl (lv_at hl 1 rfl) ?_
      refine lv_lload_n hx hb dX9_move_54 rfl (lv_at hl 2 rfl) ?_
      refine cpV (As := [.int w, .long y]) (rest := []) (by have h9 := k_X9_mayMove l D cA M m0 fb ra wn ov th it td hp bd fl v fh fb2 ff g t mv mi hv bv (nB w) y hA hv8 hv9 hv10 hv11 hfh hmv hfb hok hbv hw3; rw [← ew] at h9; exact h9) ⟨hx, hb, hml, hown, hts⟩ (cwV 2 hts gX9_move_X9_mayMove rfl rfl rfl (by decide +kernel) ⟨by decide, by decide⟩) hK hM hR rfl rfl hl.1 rfl (Nat.le_of_ble_eq_true rfl) dX9_move_55 ⟨by decide, by decide⟩ ?_
      refine bz_ne (tgt := 64) hx hb dX9_move_58 (by decide) (fun c_58 n_58 => ?_) (fun c_58 n_58 => ?_)
      · skip
        have h2 := bI_ne0 c_58
        have hmt : 1 ≤ y ∧ mtP g mv hv bv (nB w) (nL y) := by unfold mtF at h2; rw [Bool.and_eq_true] at h2; exact ⟨of_decide_eq_true h2.1, of_decide_eq_true h2.2⟩
        obtain ⟨ey, hy1, hy2⟩ := ge1_nL hmt.1
        have hy3 := mt_le hw3 hok.1 hmt.2 hok.2.1
        have hm2 := hmt.2.1
        have htn := hmt.2.2.1
        have hal : 2 ≤ alF g ∧ alF g ≤ 3 := by unfold alF; split <;> omega
        refine lv_aload_n hx hb dX9_move_64 rfl (lv_at hl 0 rfl) ?_
        refine cmV (As := []) (rest := []) (k_X9_isWon l D cA _ m0 fb ra wn ov th it td hp bd fl v fh fb2 ff g t mv mi hv bv hA hv8 hv9 hv10 hv11 hfh hmv hfb hok hbv) ⟨hx, hb, hml, hown, hts⟩ (cwV 0 hts gX9_move_X9_isWon rfl rfl rfl (by decide +kernel) ⟨by decide, by decide⟩) hK hh hR rfl rfl hl.1 rfl (Nat.le_of_ble_eq_true rfl) dX9_move_65 ⟨by decide, by decide⟩ (fun v9 M1 H1 locs1 hpost hh hz9 hk9 hn9 => ?_)
        obtain ⟨rfl, ⟨v1, hA1, hag⟩, hkc⟩ := hpost
        obtain ⟨hR, ⟨hu0, hu1, hu3, hu4, hu5, hu6, hu7, hu12, hu13, hu14⟩, ⟨f, hfb0, hfib⟩, ⟨f0, hrw⟩, ⟨⟨fw, fo, hwn, hov, hT2⟩, ⟨ft, fi, hth, hit, hT3⟩⟩, ⟨fd, htd⟩, hhp, hbd, hfl⟩ := id hA1
        have hu8 := hag.at hv8 (by decide) (by decide) (by decide) (by decide)
        have hu9 := hag.at hv9 (by decide) (by decide) (by decide) (by decide)
        have hu10 := hag.at hv10 (by decide) (by decide) (by decide) (by decide)
        have hu11 := hag.at hv11 (by decide) (by decide) (by decide) (by decide)
        have hkp := hkp.call hkc (by simp)
        have hM := hh.1
        refine W.eq (g2 := F0 m 68 ls [.int (bI (wnF g mi t hv bv))]) rfl ?_
        refine lv_istore (lv' := [(4, .int (bI (wnF g mi t hv bv))), (0, .ref m0), (1, .int w), (2, .long y)]) hx hb dX9_move_68 hl (by decide) rfl (fun ls hl => ?_)
        have j_83 : ∀  (ls : Array Slot), lv_has ls 8 [(4, .int (bI (wnF g mi t hv bv))), (0, .ref m0), (1, .int w), (2, .long y)] → W p l e ({ frames := 4, cells := 0, slots := 0, locals := 97 } : Room) s m args below meth c H1 locs1 0 0 Q (F0 m 83 ls [.int (nI (alF g))]) := by
          intro  ls  hl
          refine lv_istore (lv' := [(5, .int (nI (alF g))), (4, .int (bI (wnF g mi t hv bv))), (0, .ref m0), (1, .int w), (2, .long y)]) hx hb dX9_move_83 hl (by decide) rfl (fun ls hl => ?_)
          refine lv_iconst (v := 0) hx hb dX9_move_85 (by decide) ?_
          refine tpi (x' := nI 0) (rfl) ?_
          refine lv_istore (lv' := [(6, .int (nI 0)), (5, .int (nI (alF g))), (4, .int (bI (wnF g mi t hv bv))), (0, .ref m0), (1, .int w), (2, .long y)]) hx hb dX9_move_86 hl (by decide) rfl (fun ls hl => ?_)
          have j_88 : ∀ (fu : Nat) (k : Nat) (fh1 : Nat → Int64) (M1 : mp) (H : Heap) (locs : List Loc) (ls : Array Slot), (k ≤ 3) → (∀ j, j < 3 * mv + 3 → fh1 j = fh j) → (∀ i, i < k → fh1 (3 * mv + 3 + i) = lN ((hvT g (nB w) (nL y) hv) i)) → (hw D M s.heap M1 H locs) → (kpL M M1 [m0, ra, wn, ov, th, it, hp, bd, fl]) → (M1 m0 = some (.inr (9, rL v1))) → (M1 fb = some (.inl (cA 0, 64, .inr (.inl f)))) → (M1 ra = some (.inl (cA 0, 500, .inr (.inl f0)))) → (M1 wn = some (.inl (cA 2, 14884, .inl fw))) → (M1 ov = some (.inl (cA 2, 4, .inl fo))) → (M1 th = some (.inl (cA 2, 2662, .inl ft))) → (M1 it = some (.inl (cA 2, 2, .inl fi))) → (M1 td = some (.inl (cA 2, 3721, .inl fd))) → (M1 hp = some (.inl (cA 0, 603, .inr (.inl fh1)))) → (M1 bd = some (.inl (cA 0, 201, .inr (.inl fb2)))) → (M1 fl = some (.inl (cA 1, 201, .inl ff))) → (3 - k < fu) → lv_has ls 8 [(0, .ref m0), (1, .int w), (2, .long y), (4, .int (bI (wnF g mi t hv bv))), (5, .int (nI (alF g))), (6, .int (nI k))] → W p l e ({ frames := 4, cells := 0, slots := 0, locals := 97 } : Room) s m args below meth c H locs 0 0 Q (F0 m 88 ls []) := by
            intro fu
            induction fu with
            | zero => intro k fh1 M1 H locs ls hk3 ho hd hh hkp hR hfb0 hrw hwn hov hth hit htd hhp hbd hfl hm_88 _; exact absurd hm_88 (Nat.not_lt_zero _)
            | succ fu ih_88 =>
              intro k fh1 M1 H locs ls hk3 ho hd hh hkp hR hfb0 hrw hwn hov hth hit htd hhp hbd hfl hm_88 hl
              have hM := hh.1
              refine lv_iload hx hb dX9_move_88 (lv_at hl 5 rfl) ?_
              refine lv_iconst (v := 3) hx hb dX9_move_90 (by decide) ?_
              refine bi_ge (tgt := 175) hx hb dX9_move_91 (by decide) (fun c_91 n_91 => ?_) (fun c_91 n_91 => ?_)
              · skip
                have k3 : 3 ≤ k := (nI_leI (a := 3) (by decide) (by omega)).mp c_91
                have hfn : ∀ k, k < 3 → fh1 (3 * (mv + 1) + k) = lN ((hvT g (nB w) (nL y) hv) k) := fun i hi => by rw [show 3 * (mv + 1) + i = 3 * mv + 3 + i by omega]; exact hd i (by omega)
                have hbn : (bdV g t (mv + 1) ((hvT g (nB w) (nL y) hv) 0) (nL y)) ≤ 1000000000000 := bdV_le ((hvT_okB hok).2.1 0)
                refine lv_aload_n hx hb dX9_move_175 rfl (lv_at hl 0 rfl) ?_
                have j_214 : ∀  (ls : Array Slot), lv_has ls 8 [(0, .ref m0), (1, .int w), (2, .long y), (4, .int (bI (wnF g mi t hv bv))), (5, .int (nI (alF g)))] → W p l e ({ frames := 4, cells := 0, slots := 0, locals := 97 } : Room) s m args below meth c H locs 0 0 Q (F0 m 214 ls [.long (lN (bdV g t (mv + 1) ((hvT g (nB w) (nL y) hv) 0) (nL y)))]) := by
                  intro  ls  hl
                  refine lv_lstore (lv' := [(6, .long (lN (bdV g t (mv + 1) ((hvT g (nB w) (nL y) hv) 0) (nL y)))), (0, .ref m0), (1, .int w), (2, .long y), (4, .int (bI (wnF g mi t hv bv))), (5, .int (nI (alF g)))]) hx hb dX9_move_214 hl (by decide) rfl (fun ls hl => ?_)
                  refine lv_aload_n hx hb dX9_move_216 rfl (lv_at hl 1 rfl) ?_
                  refine m_get (ci := 9) (C := RX9) (T := TX9) (N := 18) (v := v1 13) hx hb hts in_X9 hown hK hM hR rfl 13 (by decide) fl_39 (fun _ h => h) rfl dX9_move_217 ?_
                  refine tpv (hu13) ?_
                  refine lv_aload_n hx hb dX9_move_220 rfl (lv_at hl 1 rfl) ?_
                  refine m_get (ci := 9) (C := RX9) (T := TX9) (N := 18) (v := v1 11) hx hb hts in_X9 hown hK hM hR rfl 11 (by decide) fl_144 (fun _ h => h) rfl dX9_move_221 ?_
                  refine tpv (hu11) ?_
                  refine lv_iconst (v := 1) hx hb dX9_move_224 (by decide) ?_
                  refine lv_iadd hx hb dX9_move_225 ?_
                  refine tpi (x' := nI (mv + 1)) (nI_1 mv) ?_
                  refine lv_lload hx hb dX9_move_226 (lv_at hl 0 rfl) ?_
                  refine m_lastN (k := mv + 1) hx hb hK hh hbd (rfl) (by omega) (by decide) dX9_move_228 (fun M1 H1 locs1 e1 hh => ?_)
                  have hR := mu_kp e1 (mp_ne hR hbd (by simp)) hR
                  have hfb0 := mu_kp e1 (mp_ne hfb0 hbd (by simp)) hfb0
                  have hrw := mu_kp e1 (mp_ne hrw hbd (by simp)) hrw
                  have hwn := mu_kp e1 (mp_ne hwn hbd (by simp)) hwn
                  have hov := mu_kp e1 (mp_ne hov hbd (by simp)) hov
                  have hth := mu_kp e1 (mp_ne hth hbd (by simp)) hth
                  have hit := mu_kp e1 (mp_ne hit hbd (by simp)) hit
                  have htd := mu_kp e1 (mp_ne htd hbd (by simp)) htd
                  have hhp := mu_kp e1 (mp_ne hhp hbd (by simp)) hhp
                  have hfl := mu_kp e1 (mp_ne hfl hbd (by simp)) hfl
                  have hbd := mu_at e1
                  have hkp := hkp.put e1 (by simp)
                  have hbd : M1 bd = some (.inl (cA 0, 201, .inr (.inl (vp_updL fb2 (mv + 1) (lN (bdV g t (mv + 1) ((hvT g (nB w) (nL y) hv) 0) (nL y))))))) := hbd
                  have hM := hh.1
                  refine lv_aload_n hx hb dX9_move_229 rfl (lv_at hl 1 rfl) ?_
                  refine lv_dup hx hb dX9_move_230 rfl ?_
                  refine m_get (ci := 9) (C := RX9) (T := TX9) (N := 18) (v := v1 11) hx hb hts in_X9 hown hK hM hR rfl 11 (by decide) fl_144 (fun _ h => h) rfl dX9_move_231 ?_
                  refine tpv (hu11) ?_
                  refine lv_iconst (v := 1) hx hb dX9_move_234 (by decide) ?_
                  refine lv_iadd hx hb dX9_move_235 ?_
                  refine tpi (x' := nI (mv + 1)) (nI_1 mv) ?_
                  refine m_put (ci := 9) (C := RX9) (T := TX9) (N := 18) (v := .int (nI (mv + 1))) hx hb hts in_X9 tyX9 tyX9_ok nmX9 hown hK hh hR rfl 11 (by decide) fl_144 (fun _ h => h) rfl (ty := tyX9 11) (by decide +kernel) (rfl) (rfl) (Nat.le_of_ble_eq_true rfl) dX9_move_236 (fun M1 H1 locs1 e1 hh => ?_)
                  have hfb0 := mu_kp e1 (mp_ne hfb0 hR (by simp)) hfb0
                  have hrw := mu_kp e1 (mp_ne hrw hR (by simp)) hrw
                  have hwn := mu_kp e1 (mp_ne hwn hR (by simp)) hwn
                  have hov := mu_kp e1 (mp_ne hov hR (by simp)) hov
                  have hth := mu_kp e1 (mp_ne hth hR (by simp)) hth
                  have hit := mu_kp e1 (mp_ne hit hR (by simp)) hit
                  have htd := mu_kp e1 (mp_ne htd hR (by simp)) htd
                  have hhp := mu_kp e1 (mp_ne hhp hR (by simp)) hhp
                  have hbd := mu_kp e1 (mp_ne hbd hR (by simp)) hbd
                  have hfl := mu_kp e1 (mp_ne hfl hR (by simp)) hfl
                  have hR := mu_at e1
                  have hkp := hkp.put e1 (by simp)
                  have hR : M1 m0 = some (.inr (9, rL (va_up v1 11 (.int (nI (mv + 1)))))) := hR
                  have hM := hh.1
                  refine lv_aload_n hx hb dX9_move_239 rfl (lv_at hl 1 rfl) ?_
                  refine m_get (ci := 9) (C := RX9) (T := TX9) (N := 18) (v := (va_up v1 11 (.int (nI (mv + 1)))) 14) hx hb hts in_X9 hown hK hM hR rfl 14 (by decide) fl_42 (fun _ h => h) rfl dX9_move_240 ?_
                  refine tpv ((va_up_ne _ _ (by decide)).trans (hu14)) ?_
                  refine lv_aload_n hx hb dX9_move_243 rfl (lv_at hl 1 rfl) ?_
                  refine m_get (ci := 9) (C := RX9) (T := TX9) (N := 18) (v := (va_up v1 11 (.int (nI (mv + 1)))) 11) hx hb hts in_X9 hown hK hM hR rfl 11 (by decide) fl_144 (fun _ h => h) rfl dX9_move_244 ?_
                  refine tpv (va_up_self _ _ _) ?_
                  refine lv_aload_n hx hb dX9_move_247 rfl (lv_at hl 1 rfl) ?_
                  refine m_get (ci := 9) (C := RX9) (T := TX9) (N := 18) (v := (va_up v1 11 (.int (nI (mv + 1)))) 14) hx hb hts in_X9 hown hK hM hR rfl 14 (by decide) fl_42 (fun _ h => h) rfl dX9_move_248 ?_
                  refine tpv ((va_up_ne _ _ (by decide)).trans (hu14)) ?_
                  refine lv_aload_n hx hb dX9_move_251 rfl (lv_at hl 1 rfl) ?_
                  refine m_get (ci := 9) (C := RX9) (T := TX9) (N := 18) (v := (va_up v1 11 (.int (nI (mv + 1)))) 11) hx hb hts in_X9 hown hK hM hR rfl 11 (by decide) fl_144 (fun _ h => h) rfl dX9_move_252 ?_
                  refine tpv (va_up_self _ _ _) ?_
                  refine lv_iconst (v := 1) hx hb dX9_move_255 (by decide) ?_
                  refine lv_isub hx hb dX9_move_256 ?_
                  refine tpi (x' := nI mv) (nD_succ mv) ?_
                  refine m_ialdN (k := mv) hx hb hK hM hfl (rfl) (by omega) (by decide) dX9_move_257 ?_
                  refine tpi (x' := nI fcv) (hff) ?_
                  refine lv_iload hx hb dX9_move_258 (lv_at hl 4 rfl) ?_
                  refine bz_eq (tgt := 274) hx hb dX9_move_260 (by decide) (fun c_260 n_260 => ?_) (fun c_260 n_260 => ?_)
                  · skip
                    have hw0 := bI_eq0 c_260
                    refine lv_iconst (v := 0) hx hb dX9_move_274 (by decide) ?_
                    refine lv_iadd hx hb dX9_move_275 ?_
                    refine tpi (x' := nI (fcv + bN (wnF g mi t hv bv && wnF g mi t (hvT g (nB w) (nL y) hv) (bdV g t (mv + 1) ((hvT g (nB w) (nL y) hv) 0) (nL y))))) (by rw [hw0]; exact Int32.add_zero _) ?_
                    refine m_iastN (k := mv + 1) hx hb hK hh hfl (rfl) (by omega) (by decide) dX9_move_276 (fun M1 H1 locs1 e1 hh => ?_)
                    have hR := mu_kp e1 (mp_ne hR hfl (by simp)) hR
                    have hfb0 := mu_kp e1 (mp_ne hfb0 hfl (by simp)) hfb0
                    have hrw := mu_kp e1 (mp_ne hrw hfl (by simp)) hrw
                    have hwn := mu_kp e1 (mp_ne hwn hfl (by simp)) hwn
                    have hov := mu_kp e1 (mp_ne hov hfl (by simp)) hov
                    have hth := mu_kp e1 (mp_ne hth hfl (by simp)) hth
                    have hit := mu_kp e1 (mp_ne hit hfl (by simp)) hit
                    have htd := mu_kp e1 (mp_ne htd hfl (by simp)) htd
                    have hhp := mu_kp e1 (mp_ne hhp hfl (by simp)) hhp
                    have hbd := mu_kp e1 (mp_ne hbd hfl (by simp)) hbd
                    have hfl := mu_at e1
                    have hkp := hkp.put e1 (by simp)
                    have hfl : M1 fl = some (.inl (cA 1, 201, .inl (upd ff (mv + 1) (nI (fcv + bN (wnF g mi t hv bv && wnF g mi t (hvT g (nB w) (nL y) hv) (bdV g t (mv + 1) ((hvT g (nB w) (nL y) hv) 0) (nL y)))))))) := hfl
                    have hM := hh.1
                    refine lv_aload_n hx hb dX9_move_277 rfl (lv_at hl 1 rfl) ?_
                    refine cpV (As := []) (rest := []) (k_X9_canMove l D cA _ m0 fb ra wn ov th it td hp bd fl _ fh1 (vp_updL fb2 (mv + 1) (lN (bdV g t (mv + 1) ((hvT g (nB w) (nL y) hv) 0) (nL y)))) (upd ff (mv + 1) (nI (fcv + bN (wnF g mi t hv bv && wnF g mi t (hvT g (nB w) (nL y) hv) (bdV g t (mv + 1) ((hvT g (nB w) (nL y) hv) 0) (nL y)))))) g t (mv + 1) mi (hvT g (nB w) (nL y) hv) (bdV g t (mv + 1) ((hvT g (nB w) (nL y) hv) 0) (nL y)) ⟨hR, ⟨(va_up_ne _ _ (by decide)).trans (hu0), (va_up_ne _ _ (by decide)).trans (hu1), (va_up_ne _ _ (by decide)).trans (hu3), (va_up_ne _ _ (by decide)).trans (hu4), (va_up_ne _ _ (by decide)).trans (hu5), (va_up_ne _ _ (by decide)).trans (hu6), (va_up_ne _ _ (by decide)).trans (hu7), (va_up_ne _ _ (by decide)).trans (hu12), (va_up_ne _ _ (by decide)).trans (hu13), (va_up_ne _ _ (by decide)).trans (hu14)⟩, ⟨f, hfb0, hfib⟩, ⟨f0, hrw⟩, ⟨⟨fw, fo, hwn, hov, hT2⟩, ⟨ft, fi, hth, hit, hT3⟩⟩, ⟨fd, htd⟩, hhp, hbd, hfl⟩ ((va_up_ne _ _ (by decide)).trans (hu8)) ((va_up_ne _ _ (by decide)).trans (hu9)) ((va_up_ne _ _ (by decide)).trans (hu10)) (va_up_self _ _ _) (fun k hk => hfn k hk) (by omega) pk_uLs (hvT_okB hok) hbn) ⟨hx, hb, hml, hown, hts⟩ (cwV 0 hts gX9_move_X9_canMove rfl rfl rfl (by decide +kernel) ⟨by decide, by decide⟩) hK hM hR rfl rfl hl.1 rfl (Nat.le_of_ble_eq_true rfl) dX9_move_278 ⟨by decide, by decide⟩ ?_
                    refine bz_eq (tgt := 288) hx hb dX9_move_281 (by decide) (fun c_281 n_281 => ?_) (fun c_281 n_281 => ?_)
                    · skip
                      have hov5 : ovF g (hvT g (nB w) (nL y) hv) (bdV g t (mv + 1) ((hvT g (nB w) (nL y) hv) 0) (nL y)) = true := bI_n0 c_281
                      refine lv_iconst (v := 2) hx hb dX9_move_288 (by decide) ?_
                      exact hreti _ _ _ _ _ _ _ _ hh (Or.inr (Or.inr ⟨h1, h2, by rw [hov5]; rfl, ⟨_, _, _, _, ⟨hR, ⟨(va_up_ne _ _ (by decide)).trans (hu0), (va_up_ne _ _ (by decide)).trans (hu1), (va_up_ne _ _ (by decide)).trans (hu3), (va_up_ne _ _ (by decide)).trans (hu4), (va_up_ne _ _ (by decide)).trans (hu5), (va_up_ne _ _ (by decide)).trans (hu6), (va_up_ne _ _ (by decide)).trans (hu7), (va_up_ne _ _ (by decide)).trans (hu12), (va_up_ne _ _ (by decide)).trans (hu13), (va_up_ne _ _ (by decide)).trans (hu14)⟩, ⟨f, hfb0, hfib⟩, ⟨f0, hrw⟩, ⟨⟨fw, fo, hwn, hov, hT2⟩, ⟨ft, fi, hth, hit, hT3⟩⟩, ⟨fd, htd⟩, hhp, hbd, hfl⟩, (va_up_ne _ _ (by decide)).trans (hu8), (va_up_ne _ _ (by decide)).trans (hu9), (va_up_ne _ _ (by decide)).trans (hu10), va_up_self _ _ _, ho, fun k hk => hfn k hk, fun j hj => pk_uLn (by omega), pk_uLs, fun j hj => pk_un (by omega), pk_us⟩, hkp⟩)) (by decide) (by decide) dX9_move_289 rfl
                    · skip
                      have hov5 : ovF g (hvT g (nB w) (nL y) hv) (bdV g t (mv + 1) ((hvT g (nB w) (nL y) hv) 0) (nL y)) = false := bI_nn0 c_281
                      refine lv_iconst (v := 1) hx hb dX9_move_284 (by decide) ?_
                      refine lv_goto (tgt := 289) hx hb dX9_move_285 (by decide) ?_
                      exact hreti _ _ _ _ _ _ _ _ hh (Or.inr (Or.inr ⟨h1, h2, by rw [hov5]; rfl, ⟨_, _, _, _, ⟨hR, ⟨(va_up_ne _ _ (by decide)).trans (hu0), (va_up_ne _ _ (by decide)).trans (hu1), (va_up_ne _ _ (by decide)).trans (hu3), (va_up_ne _ _ (by decide)).trans (hu4), (va_up_ne _ _ (by decide)).trans (hu5), (va_up_ne _ _ (by decide)).trans (hu6), (va_up_ne _ _ (by decide)).trans (hu7), (va_up_ne _ _ (by decide)).trans (hu12), (va_up_ne _ _ (by decide)).trans (hu13), (va_up_ne _ _ (by decide)).trans (hu14)⟩, ⟨f, hfb0, hfib⟩, ⟨f0, hrw⟩, ⟨⟨fw, fo, hwn, hov, hT2⟩, ⟨ft, fi, hth, hit, hT3⟩⟩, ⟨fd, htd⟩, hhp, hbd, hfl⟩, (va_up_ne _ _ (by decide)).trans (hu8), (va_up_ne _ _ (by decide)).trans (hu9), (va_up_ne _ _ (by decide)).trans (hu10), va_up_self _ _ _, ho, fun k hk => hfn k hk, fun j hj => pk_uLn (by omega), pk_uLs, fun j hj => pk_un (by omega), pk_us⟩, hkp⟩)) (by decide) (by decide) dX9_move_289 rfl
                  · skip
                    have hw0 := bI_ne0 c_260
                    refine lv_aload_n hx hb dX9_move_263 rfl (lv_at hl 1 rfl) ?_
                    refine cmV (As := []) (rest := [.int (nI fcv), .int (nI (mv + 1)), .ref fl]) (k_X9_isWon l D cA _ m0 fb ra wn ov th it td hp bd fl _ fh1 (vp_updL fb2 (mv + 1) (lN (bdV g t (mv + 1) ((hvT g (nB w) (nL y) hv) 0) (nL y)))) ff g t (mv + 1) mi (hvT g (nB w) (nL y) hv) (bdV g t (mv + 1) ((hvT g (nB w) (nL y) hv) 0) (nL y)) ⟨hR, ⟨(va_up_ne _ _ (by decide)).trans (hu0), (va_up_ne _ _ (by decide)).trans (hu1), (va_up_ne _ _ (by decide)).trans (hu3), (va_up_ne _ _ (by decide)).trans (hu4), (va_up_ne _ _ (by decide)).trans (hu5), (va_up_ne _ _ (by decide)).trans (hu6), (va_up_ne _ _ (by decide)).trans (hu7), (va_up_ne _ _ (by decide)).trans (hu12), (va_up_ne _ _ (by decide)).trans (hu13), (va_up_ne _ _ (by decide)).trans (hu14)⟩, ⟨f, hfb0, hfib⟩, ⟨f0, hrw⟩, ⟨⟨fw, fo, hwn, hov, hT2⟩, ⟨ft, fi, hth, hit, hT3⟩⟩, ⟨fd, htd⟩, hhp, hbd, hfl⟩ ((va_up_ne _ _ (by decide)).trans (hu8)) ((va_up_ne _ _ (by decide)).trans (hu9)) ((va_up_ne _ _ (by decide)).trans (hu10)) (va_up_self _ _ _) (fun k hk => hfn k hk) (by omega) pk_uLs (hvT_okB hok) hbn) ⟨hx, hb, hml, hown, hts⟩ (cwV 0 hts gX9_move_X9_isWon rfl rfl rfl (by decide +kernel) ⟨by decide, by decide⟩) hK hh hR rfl rfl hl.1 rfl (Nat.le_of_ble_eq_true rfl) dX9_move_264 ⟨by decide, by decide⟩ (fun v9 M1 H1 locs1 hpost hh hz9 hk9 hn9 => ?_)
                    obtain ⟨rfl, ⟨v3, hA1, hag⟩, hkc⟩ := hpost
                    have hz8 : v3 8 = .int (nI g) := hag.at ((va_up_ne _ _ (by decide)).trans (hu8)) (by decide) (by decide) (by decide) (by decide)
                    have hz9 : v3 9 = .int (bI mi) := hag.at ((va_up_ne _ _ (by decide)).trans (hu9)) (by decide) (by decide) (by decide) (by decide)
                    have hz10 : v3 10 = .int (nI t) := hag.at ((va_up_ne _ _ (by decide)).trans (hu10)) (by decide) (by decide) (by decide) (by decide)
                    have hz11 : v3 11 = .int (nI (mv + 1)) := hag.at (va_up_self _ _ _) (by decide) (by decide) (by decide) (by decide)
                    obtain ⟨hR, ⟨hu0, hu1, hu3, hu4, hu5, hu6, hu7, hu12, hu13, hu14⟩, ⟨f, hfb0, hfib⟩, ⟨f0, hrw⟩, ⟨⟨fw, fo, hwn, hov, hT2⟩, ⟨ft, fi, hth, hit, hT3⟩⟩, ⟨fd, htd⟩, hhp, hbd, hfl⟩ := id hA1
                    have hu8 := hz8
                    have hu9 := hz9
                    have hu10 := hz10
                    have hu11 := hz11
                    have hkp := hkp.call hkc (by simp)
                    have hM := hh.1
                    refine W.eq (g2 := F0 m 267 ls [.int (bI (wnF g mi t (hvT g (nB w) (nL y) hv) (bdV g t (mv + 1) ((hvT g (nB w) (nL y) hv) 0) (nL y)))), .int (nI fcv), .int (nI (mv + 1)), .ref fl]) rfl ?_
                    refine bz_eq (tgt := 274) hx hb dX9_move_267 (by decide) (fun c_267 n_267 => ?_) (fun c_267 n_267 => ?_)
                    · skip
                      have hw1 := bI_eq0 c_267
                      refine lv_iconst (v := 0) hx hb dX9_move_274 (by decide) ?_
                      refine lv_iadd hx hb dX9_move_275 ?_
                      refine tpi (x' := nI (fcv + bN (wnF g mi t hv bv && wnF g mi t (hvT g (nB w) (nL y) hv) (bdV g t (mv + 1) ((hvT g (nB w) (nL y) hv) 0) (nL y))))) (by rw [hw0, hw1]; exact Int32.add_zero _) ?_
                      refine m_iastN (k := mv + 1) hx hb hK hh hfl (rfl) (by omega) (by decide) dX9_move_276 (fun M1 H1 locs1 e1 hh => ?_)
                      have hR := mu_kp e1 (mp_ne hR hfl (by simp)) hR
                      have hfb0 := mu_kp e1 (mp_ne hfb0 hfl (by simp)) hfb0
                      have hrw := mu_kp e1 (mp_ne hrw hfl (by simp)) hrw
                      have hwn := mu_kp e1 (mp_ne hwn hfl (by simp)) hwn
                      have hov := mu_kp e1 (mp_ne hov hfl (by simp)) hov
                      have hth := mu_kp e1 (mp_ne hth hfl (by simp)) hth
                      have hit := mu_kp e1 (mp_ne hit hfl (by simp)) hit
                      have htd := mu_kp e1 (mp_ne htd hfl (by simp)) htd
                      have hhp := mu_kp e1 (mp_ne hhp hfl (by simp)) hhp
                      have hbd := mu_kp e1 (mp_ne hbd hfl (by simp)) hbd
                      have hfl := mu_at e1
                      have hkp := hkp.put e1 (by simp)
                      have hfl : M1 fl = some (.inl (cA 1, 201, .inl (upd ff (mv + 1) (nI (fcv + bN (wnF g mi t hv bv && wnF g mi t (hvT g (nB w) (nL y) hv) (bdV g t (mv + 1) ((hvT g (nB w) (nL y) hv) 0) (nL y)))))))) := hfl
                      have hM := hh.1
                      refine lv_aload_n hx hb dX9_move_277 rfl (lv_at hl 1 rfl) ?_
                      refine cpV (As := []) (rest := []) (k_X9_canMove l D cA _ m0 fb ra wn ov th it td hp bd fl _ fh1 (vp_updL fb2 (mv + 1) (lN (bdV g t (mv + 1) ((hvT g (nB w) (nL y) hv) 0) (nL y)))) (upd ff (mv + 1) (nI (fcv + bN (wnF g mi t hv bv && wnF g mi t (hvT g (nB w) (nL y) hv) (bdV g t (mv + 1) ((hvT g (nB w) (nL y) hv) 0) (nL y)))))) g t (mv + 1) mi (hvT g (nB w) (nL y) hv) (bdV g t (mv + 1) ((hvT g (nB w) (nL y) hv) 0) (nL y)) ⟨hR, ⟨hu0, hu1, hu3, hu4, hu5, hu6, hu7, hu12, hu13, hu14⟩, ⟨f, hfb0, hfib⟩, ⟨f0, hrw⟩, ⟨⟨fw, fo, hwn, hov, hT2⟩, ⟨ft, fi, hth, hit, hT3⟩⟩, ⟨fd, htd⟩, hhp, hbd, hfl⟩ hu8 hu9 hu10 hu11 (fun k hk => hfn k hk) (by omega) pk_uLs (hvT_okB hok) hbn) ⟨hx, hb, hml, hown, hts⟩ (cwV 0 hts gX9_move_X9_canMove rfl rfl rfl (by decide +kernel) ⟨by decide, by decide⟩) hK hM hR rfl rfl hl.1 rfl (Nat.le_of_ble_eq_true rfl) dX9_move_278 ⟨by decide, by decide⟩ ?_
                      refine bz_eq (tgt := 288) hx hb dX9_move_281 (by decide) (fun c_281 n_281 => ?_) (fun c_281 n_281 => ?_)
                      · skip
                        have hov5 : ovF g (hvT g (nB w) (nL y) hv) (bdV g t (mv + 1) ((hvT g (nB w) (nL y) hv) 0) (nL y)) = true := bI_n0 c_281
                        refine lv_iconst (v := 2) hx hb dX9_move_288 (by decide) ?_
                        exact hreti _ _ _ _ _ _ _ _ hh (Or.inr (Or.inr ⟨h1, h2, by rw [hov5]; rfl, ⟨_, _, _, _, ⟨hR, ⟨hu0, hu1, hu3, hu4, hu5, hu6, hu7, hu12, hu13, hu14⟩, ⟨f, hfb0, hfib⟩, ⟨f0, hrw⟩, ⟨⟨fw, fo, hwn, hov, hT2⟩, ⟨ft, fi, hth, hit, hT3⟩⟩, ⟨fd, htd⟩, hhp, hbd, hfl⟩, hu8, hu9, hu10, hu11, ho, fun k hk => hfn k hk, fun j hj => pk_uLn (by omega), pk_uLs, fun j hj => pk_un (by omega), pk_us⟩, hkp⟩)) (by decide) (by decide) dX9_move_289 rfl
                      · skip
                        have hov5 : ovF g (hvT g (nB w) (nL y) hv) (bdV g t (mv + 1) ((hvT g (nB w) (nL y) hv) 0) (nL y)) = false := bI_nn0 c_281
                        refine lv_iconst (v := 1) hx hb dX9_move_284 (by decide) ?_
                        refine lv_goto (tgt := 289) hx hb dX9_move_285 (by decide) ?_
                        exact hreti _ _ _ _ _ _ _ _ hh (Or.inr (Or.inr ⟨h1, h2, by rw [hov5]; rfl, ⟨_, _, _, _, ⟨hR, ⟨hu0, hu1, hu3, hu4, hu5, hu6, hu7, hu12, hu13, hu14⟩, ⟨f, hfb0, hfib⟩, ⟨f0, hrw⟩, ⟨⟨fw, fo, hwn, hov, hT2⟩, ⟨ft, fi, hth, hit, hT3⟩⟩, ⟨fd, htd⟩, hhp, hbd, hfl⟩, hu8, hu9, hu10, hu11, ho, fun k hk => hfn k hk, fun j hj => pk_uLn (by omega), pk_uLs, fun j hj => pk_un (by omega), pk_us⟩, hkp⟩)) (by decide) (by decide) dX9_move_289 rfl
                    · skip
                      have hw1 := bI_ne0 c_267
                      refine lv_iconst (v := 1) hx hb dX9_move_270 (by decide) ?_
                      refine lv_goto (tgt := 275) hx hb dX9_move_271 (by decide) ?_
                      refine lv_iadd hx hb dX9_move_275 ?_
                      refine tpi (x' := nI (fcv + bN (wnF g mi t hv bv && wnF g mi t (hvT g (nB w) (nL y) hv) (bdV g t (mv + 1) ((hvT g (nB w) (nL y) hv) 0) (nL y))))) (by rw [hw0, hw1]; exact nI_1 fcv) ?_
                      refine m_iastN (k := mv + 1) hx hb hK hh hfl (rfl) (by omega) (by decide) dX9_move_276 (fun M1 H1 locs1 e1 hh => ?_)
                      have hR := mu_kp e1 (mp_ne hR hfl (by simp)) hR
                      have hfb0 := mu_kp e1 (mp_ne hfb0 hfl (by simp)) hfb0
                      have hrw := mu_kp e1 (mp_ne hrw hfl (by simp)) hrw
                      have hwn := mu_kp e1 (mp_ne hwn hfl (by simp)) hwn
                      have hov := mu_kp e1 (mp_ne hov hfl (by simp)) hov
                      have hth := mu_kp e1 (mp_ne hth hfl (by simp)) hth
                      have hit := mu_kp e1 (mp_ne hit hfl (by simp)) hit
                      have htd := mu_kp e1 (mp_ne htd hfl (by simp)) htd
                      have hhp := mu_kp e1 (mp_ne hhp hfl (by simp)) hhp
                      have hbd := mu_kp e1 (mp_ne hbd hfl (by simp)) hbd
                      have hfl := mu_at e1
                      have hkp := hkp.put e1 (by simp)
                      have hfl : M1 fl = some (.inl (cA 1, 201, .inl (upd ff (mv + 1) (nI (fcv + bN (wnF g mi t hv bv && wnF g mi t (hvT g (nB w) (nL y) hv) (bdV g t (mv + 1) ((hvT g (nB w) (nL y) hv) 0) (nL y)))))))) := hfl
                      have hM := hh.1
                      refine lv_aload_n hx hb dX9_move_277 rfl (lv_at hl 1 rfl) ?_
                      refine cpV (As := []) (rest := []) (k_X9_canMove l D cA _ m0 fb ra wn ov th it td hp bd fl _ fh1 (vp_updL fb2 (mv + 1) (lN (bdV g t (mv + 1) ((hvT g (nB w) (nL y) hv) 0) (nL y)))) (upd ff (mv + 1) (nI (fcv + bN (wnF g mi t hv bv && wnF g mi t (hvT g (nB w) (nL y) hv) (bdV g t (mv + 1) ((hvT g (nB w) (nL y) hv) 0) (nL y)))))) g t (mv + 1) mi (hvT g (nB w) (nL y) hv) (bdV g t (mv + 1) ((hvT g (nB w) (nL y) hv) 0) (nL y)) ⟨hR, ⟨hu0, hu1, hu3, hu4, hu5, hu6, hu7, hu12, hu13, hu14⟩, ⟨f, hfb0, hfib⟩, ⟨f0, hrw⟩, ⟨⟨fw, fo, hwn, hov, hT2⟩, ⟨ft, fi, hth, hit, hT3⟩⟩, ⟨fd, htd⟩, hhp, hbd, hfl⟩ hu8 hu9 hu10 hu11 (fun k hk => hfn k hk) (by omega) pk_uLs (hvT_okB hok) hbn) ⟨hx, hb, hml, hown, hts⟩ (cwV 0 hts gX9_move_X9_canMove rfl rfl rfl (by decide +kernel) ⟨by decide, by decide⟩) hK hM hR rfl rfl hl.1 rfl (Nat.le_of_ble_eq_true rfl) dX9_move_278 ⟨by decide, by decide⟩ ?_
                      refine bz_eq (tgt := 288) hx hb dX9_move_281 (by decide) (fun c_281 n_281 => ?_) (fun c_281 n_281 => ?_)
                      · skip
                        have hov5 : ovF g (hvT g (nB w) (nL y) hv) (bdV g t (mv + 1) ((hvT g (nB w) (nL y) hv) 0) (nL y)) = true := bI_n0 c_281
                        refine lv_iconst (v := 2) hx hb dX9_move_288 (by decide) ?_
                        exact hreti _ _ _ _ _ _ _ _ hh (Or.inr (Or.inr ⟨h1, h2, by rw [hov5]; rfl, ⟨_, _, _, _, ⟨hR, ⟨hu0, hu1, hu3, hu4, hu5, hu6, hu7, hu12, hu13, hu14⟩, ⟨f, hfb0, hfib⟩, ⟨f0, hrw⟩, ⟨⟨fw, fo, hwn, hov, hT2⟩, ⟨ft, fi, hth, hit, hT3⟩⟩, ⟨fd, htd⟩, hhp, hbd, hfl⟩, hu8, hu9, hu10, hu11, ho, fun k hk => hfn k hk, fun j hj => pk_uLn (by omega), pk_uLs, fun j hj => pk_un (by omega), pk_us⟩, hkp⟩)) (by decide) (by decide) dX9_move_289 rfl
                      · skip
                        have hov5 : ovF g (hvT g (nB w) (nL y) hv) (bdV g t (mv + 1) ((hvT g (nB w) (nL y) hv) 0) (nL y)) = false := bI_nn0 c_281
                        refine lv_iconst (v := 1) hx hb dX9_move_284 (by decide) ?_
                        refine lv_goto (tgt := 289) hx hb dX9_move_285 (by decide) ?_
                        exact hreti _ _ _ _ _ _ _ _ hh (Or.inr (Or.inr ⟨h1, h2, by rw [hov5]; rfl, ⟨_, _, _, _, ⟨hR, ⟨hu0, hu1, hu3, hu4, hu5, hu6, hu7, hu12, hu13, hu14⟩, ⟨f, hfb0, hfib⟩, ⟨f0, hrw⟩, ⟨⟨fw, fo, hwn, hov, hT2⟩, ⟨ft, fi, hth, hit, hT3⟩⟩, ⟨fd, htd⟩, hhp, hbd, hfl⟩, hu8, hu9, hu10, hu11, ho, fun k hk => hfn k hk, fun j hj => pk_uLn (by omega), pk_uLs, fun j hj => pk_un (by omega), pk_us⟩, hkp⟩)) (by decide) (by decide) dX9_move_289 rfl
                refine m_get (ci := 9) (C := RX9) (T := TX9) (N := 18) (v := v1 8) hx hb hts in_X9 hown hK hM hR rfl 8 (by decide) fl_32 (fun _ h => h) rfl dX9_move_176 ?_
                refine tpv (hu8) ?_
                refine lv_iconst (v := 2) hx hb dX9_move_179 (by decide) ?_
                refine bi_eq (tgt := 187) hx hb dX9_move_180 (by decide) (fun c_180 n_180 => ?_) (fun c_180 n_180 => ?_)
                · skip
                  have qb : g = 2 := (nI_eq (b := 2) (by omega) (by decide)).mp c_180
                  have htt := hok.2.2.2.1 qb
                  have ht9 := hok.2.2.1
                  have hdv : 1000000000000 / t ≤ 1000000000000 := Nat.div_le_self _ _
                  refine lv_lload_n hx hb dX9_move_187 rfl (lv_at hl 2 rfl) ?_
                  refine lv_ldc2 hx hb hown cst_48 dX9_move_188 ?_
                  refine lv_aload_n hx hb dX9_move_191 rfl (lv_at hl 0 rfl) ?_
                  refine m_get (ci := 9) (C := RX9) (T := TX9) (N := 18) (v := v1 10) hx hb hts in_X9 hown hK hM hR rfl 10 (by decide) fl_141 (fun _ h => h) rfl dX9_move_192 ?_
                  refine tpv (hu10) ?_
                  refine lv_i2l hx hb dX9_move_195 rfl ?_
                  refine tpl (x' := lN t) (nI_l (by omega)) ?_
                  refine lv_ldiv hx hb dX9_move_196 (fun z => by have := (ln_eq (by omega) (by decide)).mp (show lN t = lN 0 by rw [z]; rfl); omega) ?_
                  refine tpl (x' := lN (1000000000000 / t)) (divL (m := 1000000000000) (by decide) rfl (by decide) (by omega) (by omega)) ?_
                  refine bl_le (tgt := 207) hx hb dX9_move_197 dX9_move_198 (by decide) (fun c_198 n_198 => ?_) (fun c_198 n_198 => ?_)
                  · skip
                    have hbg : t * nL y ≤ 1000000000000 := by have := (leL ey rfl (by omega) (by omega)).mp c_198; exact Nat.le_trans (Nat.mul_le_mul_left t this) (Nat.mul_div_le _ _)
                    refine lv_aload_n hx hb dX9_move_207 rfl (lv_at hl 0 rfl) ?_
                    refine m_get (ci := 9) (C := RX9) (T := TX9) (N := 18) (v := v1 10) hx hb hts in_X9 hown hK hM hR rfl 10 (by decide) fl_141 (fun _ h => h) rfl dX9_move_208 ?_
                    refine tpv (hu10) ?_
                    refine lv_i2l hx hb dX9_move_211 rfl ?_
                    refine tpl (x' := lN t) (nI_l (by omega)) ?_
                    refine lv_lload_n hx hb dX9_move_212 rfl (lv_at hl 2 rfl) ?_
                    refine lv_lmul hx hb dX9_move_213 ?_
                    refine tpl (x' := lN (bdV g t (mv + 1) ((hvT g (nB w) (nL y) hv) 0) (nL y))) (by unfold bdV; rw [if_pos qb, if_neg (by omega), Nat.min_eq_right hbg]; exact (congrArg (lN t * ·) ey).trans (lN_mul _ _)) ?_
                    exact j_214 _ (lv_sub hl [0, 1, 2, 3, 4] rfl)
                  · skip
                    have hbg : 1000000000000 ≤ t * nL y := by have := (ltL rfl ey (by omega) (by omega)).mp c_198; exact Nat.le_of_lt ((Nat.div_lt_iff_lt_mul (by omega)).mp this |> fun z => by rw [Nat.mul_comm]; exact z)
                    refine lv_ldc2 hx hb hown cst_48 dX9_move_201 ?_
                    refine tpl (x' := lN (bdV g t (mv + 1) ((hvT g (nB w) (nL y) hv) 0) (nL y))) (by unfold bdV; rw [if_pos qb, if_neg (by omega), Nat.min_eq_left hbg]; decide) ?_
                    refine lv_goto (tgt := 214) hx hb dX9_move_204 (by decide) ?_
                    exact j_214 _ (lv_sub hl [0, 1, 2, 3, 4] rfl)
                · skip
                  have qb : ¬ g = 2 := fun z => c_180 (by rw [z]; rfl)
                  refine lv_lconst (v := 0) hx hb dX9_move_183 (by decide) ?_
                  refine tpl (x' := lN (bdV g t (mv + 1) ((hvT g (nB w) (nL y) hv) 0) (nL y))) (by unfold bdV; rw [if_neg qb]; rfl) ?_
                  refine lv_goto (tgt := 214) hx hb dX9_move_184 (by decide) ?_
                  exact j_214 _ (lv_sub hl [0, 1, 2, 3, 4] rfl)
              · skip
                have k3 : k < 3 := (nI_ltI (b := 3) (by omega) (by decide)).mp c_91
                have j_126 : ∀ (tz : Bool) (ls : Array Slot), (tz = decide (k < hcF g ∧ tkF g (nB w) k = true)) → lv_has ls 8 [(0, .ref m0), (1, .int w), (2, .long y), (4, .int (bI (wnF g mi t hv bv))), (5, .int (nI (alF g))), (6, .int (nI k))] → W p l e ({ frames := 4, cells := 0, slots := 0, locals := 97 } : Room) s m args below meth c H locs 0 0 Q (F0 m 126 ls [.int (bI tz)]) := by
                  intro tz ls htz hl
                  refine lv_istore (lv' := [(7, .int (bI tz)), (0, .ref m0), (1, .int w), (2, .long y), (4, .int (bI (wnF g mi t hv bv))), (5, .int (nI (alF g))), (6, .int (nI k))]) hx hb dX9_move_126 hl (by decide) rfl (fun ls hl => ?_)
                  refine lv_aload_n hx hb dX9_move_128 rfl (lv_at hl 1 rfl) ?_
                  refine m_get (ci := 9) (C := RX9) (T := TX9) (N := 18) (v := v1 12) hx hb hts in_X9 hown hK hM hR rfl 12 (by decide) fl_36 (fun _ h => h) rfl dX9_move_129 ?_
                  refine tpv (hu12) ?_
                  refine lv_iconst (v := 3) hx hb dX9_move_132 (by decide) ?_
                  refine lv_aload_n hx hb dX9_move_133 rfl (lv_at hl 1 rfl) ?_
                  refine m_get (ci := 9) (C := RX9) (T := TX9) (N := 18) (v := v1 11) hx hb hts in_X9 hown hK hM hR rfl 11 (by decide) fl_144 (fun _ h => h) rfl dX9_move_134 ?_
                  refine tpv (hu11) ?_
                  refine lv_imul hx hb dX9_move_137 ?_
                  refine tpi (x' := nI (3 * mv)) (pk_mul 3 mv) ?_
                  refine lv_iconst (v := 3) hx hb dX9_move_138 (by decide) ?_
                  refine lv_iadd hx hb dX9_move_139 ?_
                  refine tpi (x' := nI (3 * mv + 3)) (nI_add _ 3) ?_
                  refine lv_iload hx hb dX9_move_140 (lv_at hl 6 rfl) ?_
                  refine lv_iadd hx hb dX9_move_142 ?_
                  refine tpi (x' := nI (3 * mv + 3 + k)) (nI_add _ _) ?_
                  refine lv_aload_n hx hb dX9_move_143 rfl (lv_at hl 1 rfl) ?_
                  refine m_get (ci := 9) (C := RX9) (T := TX9) (N := 18) (v := v1 12) hx hb hts in_X9 hown hK hM hR rfl 12 (by decide) fl_36 (fun _ h => h) rfl dX9_move_144 ?_
                  refine tpv (hu12) ?_
                  refine lv_iconst (v := 3) hx hb dX9_move_147 (by decide) ?_
                  refine lv_aload_n hx hb dX9_move_148 rfl (lv_at hl 1 rfl) ?_
                  refine m_get (ci := 9) (C := RX9) (T := TX9) (N := 18) (v := v1 11) hx hb hts in_X9 hown hK hM hR rfl 11 (by decide) fl_144 (fun _ h => h) rfl dX9_move_149 ?_
                  refine tpv (hu11) ?_
                  refine lv_imul hx hb dX9_move_152 ?_
                  refine tpi (x' := nI (3 * mv)) (pk_mul 3 mv) ?_
                  refine lv_iload hx hb dX9_move_153 (lv_at hl 6 rfl) ?_
                  refine lv_iadd hx hb dX9_move_155 ?_
                  refine tpi (x' := nI (3 * mv + k)) (nI_add _ _) ?_
                  refine m_laldN (k := 3 * mv + k) hx hb hK hM hhp (rfl) (by omega) (by decide) dX9_move_156 ?_
                  refine tpl (x' := lN (hv k)) ((ho _ (by omega)).trans (hfh k (by omega))) ?_
                  refine lv_iload hx hb dX9_move_157 (lv_at hl 0 rfl) ?_
                  refine bz_eq (tgt := 166) hx hb dX9_move_159 (by decide) (fun c_159 n_159 => ?_) (fun c_159 n_159 => ?_)
                  · skip
                    have hk1 := of_decide_eq_false (htz.symm.trans (bI_eq0 c_159))
                    refine lv_lconst (v := 0) hx hb dX9_move_166 (by decide) ?_
                    refine lv_lsub hx hb dX9_move_167 ?_
                    refine tpl (x' := lN ((hvT g (nB w) (nL y) hv) k)) (by rw [hvT_f hk1]; exact Int64.sub_zero _) ?_
                    refine m_lastN (k := 3 * mv + 3 + k) hx hb hK hh hhp (rfl) (by omega) (by decide) dX9_move_168 (fun M1 H1 locs1 e1 hh => ?_)
                    have hR := mu_kp e1 (mp_ne hR hhp (by simp)) hR
                    have hfb0 := mu_kp e1 (mp_ne hfb0 hhp (by simp)) hfb0
                    have hrw := mu_kp e1 (mp_ne hrw hhp (by simp)) hrw
                    have hwn := mu_kp e1 (mp_ne hwn hhp (by simp)) hwn
                    have hov := mu_kp e1 (mp_ne hov hhp (by simp)) hov
                    have hth := mu_kp e1 (mp_ne hth hhp (by simp)) hth
                    have hit := mu_kp e1 (mp_ne hit hhp (by simp)) hit
                    have htd := mu_kp e1 (mp_ne htd hhp (by simp)) htd
                    have hbd := mu_kp e1 (mp_ne hbd hhp (by simp)) hbd
                    have hfl := mu_kp e1 (mp_ne hfl hhp (by simp)) hfl
                    have hhp := mu_at e1
                    have hkp := hkp.put e1 (by simp)
                    have hhp : M1 hp = some (.inl (cA 0, 603, .inr (.inl (vp_updL fh1 (3 * mv + 3 + k) (lN ((hvT g (nB w) (nL y) hv) k)))))) := hhp
                    have hM := hh.1
                    refine lv_iinc (v := nI (k + 1)) (lv' := [(6, .int (nI (k + 1))), (7, .int (bI tz)), (0, .ref m0), (1, .int w), (2, .long y), (4, .int (bI (wnF g mi t hv bv))), (5, .int (nI (alF g)))]) hx hb dX9_move_169 hl (k := 6) rfl (nI_up k) (by decide) rfl (fun ls hl => ?_)
                    refine lv_goto (tgt := 88) hx hb dX9_move_172 (by decide) ?_
                    exact ih_88 (k + 1) ((vp_updL fh1 (3 * mv + 3 + k) (lN ((hvT g (nB w) (nL y) hv) k)))) _ _ _ _ (by omega) (fun j hj => by rw [pk_uLn (by omega)]; exact ho j hj) (fun i hi => by by_cases e : i = k; (rw [e, pk_uLs]); (rw [pk_uLn (by omega)]; exact hd i (by omega))) hh hkp hR hfb0 hrw hwn hov hth hit htd hhp hbd hfl (by omega) (lv_sub hl [2, 3, 4, 5, 6, 0] rfl)
                  · skip
                    have hk1 := of_decide_eq_true (htz.symm.trans (bI_ne0 c_159))
                    refine lv_lload_n hx hb dX9_move_162 rfl (lv_at hl 3 rfl) ?_
                    refine lv_goto (tgt := 167) hx hb dX9_move_163 (by decide) ?_
                    refine lv_lsub hx hb dX9_move_167 ?_
                    refine tpl (x' := lN ((hvT g (nB w) (nL y) hv) k)) (by rw [hvT_t hk1.1 hk1.2]; exact (congrArg (lN (hv k) - ·) ey).trans (lN_sub (htn k hk1.1 hk1.2))) ?_
                    refine m_lastN (k := 3 * mv + 3 + k) hx hb hK hh hhp (rfl) (by omega) (by decide) dX9_move_168 (fun M1 H1 locs1 e1 hh => ?_)
                    have hR := mu_kp e1 (mp_ne hR hhp (by simp)) hR
                    have hfb0 := mu_kp e1 (mp_ne hfb0 hhp (by simp)) hfb0
                    have hrw := mu_kp e1 (mp_ne hrw hhp (by simp)) hrw
                    have hwn := mu_kp e1 (mp_ne hwn hhp (by simp)) hwn
                    have hov := mu_kp e1 (mp_ne hov hhp (by simp)) hov
                    have hth := mu_kp e1 (mp_ne hth hhp (by simp)) hth
                    have hit := mu_kp e1 (mp_ne hit hhp (by simp)) hit
                    have htd := mu_kp e1 (mp_ne htd hhp (by simp)) htd
                    have hbd := mu_kp e1 (mp_ne hbd hhp (by simp)) hbd
                    have hfl := mu_kp e1 (mp_ne hfl hhp (by simp)) hfl
                    have hhp := mu_at e1
                    have hkp := hkp.put e1 (by simp)
                    have hhp : M1 hp = some (.inl (cA 0, 603, .inr (.inl (vp_updL fh1 (3 * mv + 3 + k) (lN ((hvT g (nB w) (nL y) hv) k)))))) := hhp
                    have hM := hh.1
                    refine lv_iinc (v := nI (k + 1)) (lv' := [(6, .int (nI (k + 1))), (7, .int (bI tz)), (0, .ref m0), (1, .int w), (2, .long y), (4, .int (bI (wnF g mi t hv bv))), (5, .int (nI (alF g)))]) hx hb dX9_move_169 hl (k := 6) rfl (nI_up k) (by decide) rfl (fun ls hl => ?_)
                    refine lv_goto (tgt := 88) hx hb dX9_move_172 (by decide) ?_
                    exact ih_88 (k + 1) ((vp_updL fh1 (3 * mv + 3 + k) (lN ((hvT g (nB w) (nL y) hv) k)))) _ _ _ _ (by omega) (fun j hj => by rw [pk_uLn (by omega)]; exact ho j hj) (fun i hi => by by_cases e : i = k; (rw [e, pk_uLs]); (rw [pk_uLn (by omega)]; exact hd i (by omega))) hh hkp hR hfb0 hrw hwn hov hth hit htd hhp hbd hfl (by omega) (lv_sub hl [2, 3, 4, 5, 6, 0] rfl)
                refine lv_iload_n hx hb dX9_move_94 rfl (lv_at hl 1 rfl) ?_
                refine lv_iload hx hb dX9_move_95 (lv_at hl 4 rfl) ?_
                refine bi_ge (tgt := 114) hx hb dX9_move_97 (by decide) (fun c_97 n_97 => ?_) (fun c_97 n_97 => ?_)
                · skip
                  have l97 : ¬ nB w < alF g := fun z => absurd ((nI_leI (a := alF g) (b := nB w) (by omega) (by omega)).mp (by rw [← ew]; exact c_97)) (by omega)
                  refine lv_iload hx hb dX9_move_114 (lv_at hl 5 rfl) ?_
                  refine lv_iload hx hb dX9_move_116 (lv_at hl 4 rfl) ?_
                  refine bi_ge (tgt := 125) hx hb dX9_move_118 (by decide) (fun c_118 n_118 => ?_) (fun c_118 n_118 => ?_)
                  · skip
                    have e118 : ¬ k < alF g := fun z => absurd ((nI_leI (by omega) (by omega)).mp c_118) (by omega)
                    refine lv_iconst (v := 0) hx hb dX9_move_125 (by decide) ?_
                    refine tpi (x' := bI false) (rfl) ?_
                    exact j_126 false _ (by rw [tk_eq hg3 hw3 (by omega), if_neg l97, decide_eq_false e118]) (lv_sub hl [0, 1, 2, 3, 4, 5] rfl)
                  · skip
                    have e118 : k < alF g := (nI_ltI (by omega) (by omega)).mp c_118
                    refine lv_iconst (v := 1) hx hb dX9_move_121 (by decide) ?_
                    refine tpi (x' := bI true) (rfl) ?_
                    refine lv_goto (tgt := 126) hx hb dX9_move_122 (by decide) ?_
                    exact j_126 true _ (by rw [tk_eq hg3 hw3 (by omega), if_neg l97, decide_eq_true e118]) (lv_sub hl [0, 1, 2, 3, 4, 5] rfl)
                · skip
                  have l97 : nB w < alF g := (nI_ltI (by omega) (by omega)).mp (by rw [← ew]; exact c_97)
                  refine lv_iload hx hb dX9_move_100 (lv_at hl 5 rfl) ?_
                  refine lv_iload_n hx hb dX9_move_102 rfl (lv_at hl 1 rfl) ?_
                  refine bi_ne (tgt := 110) hx hb dX9_move_103 (by decide) (fun c_103 n_103 => ?_) (fun c_103 n_103 => ?_)
                  · skip
                    have e103 : ¬ k = nB w := fun z => c_103 (by rw [z]; exact ew.symm)
                    refine lv_iconst (v := 0) hx hb dX9_move_110 (by decide) ?_
                    refine tpi (x' := bI false) (rfl) ?_
                    refine lv_goto (tgt := 126) hx hb dX9_move_111 (by decide) ?_
                    exact j_126 false _ (by rw [tk_eq hg3 hw3 (by omega), if_pos l97, decide_eq_false e103]) (lv_sub hl [0, 1, 2, 3, 4, 5] rfl)
                  · skip
                    have e103 : k = nB w := (nI_eq (by omega) (by omega)).mp (c_103.trans ew)
                    refine lv_iconst (v := 1) hx hb dX9_move_106 (by decide) ?_
                    refine tpi (x' := bI true) (rfl) ?_
                    refine lv_goto (tgt := 126) hx hb dX9_move_107 (by decide) ?_
                    exact j_126 true _ (by rw [tk_eq hg3 hw3 (by omega), if_pos l97, decide_eq_true e103]) (lv_sub hl [0, 1, 2, 3, 4, 5] rfl)
          exact j_88 (4) 0 fh _ _ _ _ (by omega) (fun _ _ => rfl) (fun i hi => absurd hi (Nat.not_lt_zero _)) hh hkp hR hfb0 hrw hwn hov hth hit htd hhp hbd hfl (by omega) (lv_sub hl [3, 4, 5, 2, 1, 0] rfl)
        refine lv_aload_n hx hb dX9_move_70 rfl (lv_at hl 1 rfl) ?_
        refine m_get (ci := 9) (C := RX9) (T := TX9) (N := 18) (v := v1 8) hx hb hts in_X9 hown hK hM hR rfl 8 (by decide) fl_32 (fun _ h => h) rfl dX9_move_71 ?_
        refine tpv (hu8) ?_
        refine lv_iconst (v := 1) hx hb dX9_move_74 (by decide) ?_
        refine bi_ne (tgt := 82) hx hb dX9_move_75 (by decide) (fun c_75 n_75 => ?_) (fun c_75 n_75 => ?_)
        · skip
          have qa : ¬ g = 1 := fun z => c_75 (by rw [z]; rfl)
          refine lv_iconst (v := 3) hx hb dX9_move_82 (by decide) ?_
          refine tpi (x' := nI (alF g)) (by unfold alF; rw [if_neg qa]; rfl) ?_
          exact j_83 _ (lv_sub hl [0, 1, 2, 3] rfl)
        · skip
          have qa : g = 1 := (nI_eq (b := 1) (by omega) (by decide)).mp c_75
          refine lv_iconst (v := 2) hx hb dX9_move_78 (by decide) ?_
          refine tpi (x' := nI (alF g)) (by unfold alF; rw [if_pos qa]; rfl) ?_
          refine lv_goto (tgt := 83) hx hb dX9_move_79 (by decide) ?_
          exact j_83 _ (lv_sub hl [0, 1, 2, 3] rfl)
      · skip
        have h2 := bI_eq0 c_58
        refine lv_bipush (v := (-3)) hx hb dX9_move_61 (by decide) ?_
        exact hreti _ _ _ _ _ _ _ _ hh (Or.inr (Or.inl ⟨h1, h2, rfl, rfl⟩)) (by decide) (by decide) dX9_move_63 rfl
    · skip
      have h1 := bI_eq0 c_46
      refine lv_bipush (v := (-2)) hx hb dX9_move_49 (by decide) ?_
      exact hreti _ _ _ _ _ _ _ _ hh (Or.inl ⟨h1, rfl, rfl⟩) (by decide) (by decide) dX9_move_51 rfl
  refine lv_iload_n hx hb dX9_move_0 rfl (lv_at hl 1 rfl) ?_
  refine lv_i2l hx hb dX9_move_1 rfl ?_
  refine lv_lconst (v := 0) hx hb dX9_move_2 (by decide) ?_
  refine lv_aload_n hx hb dX9_move_3 rfl (lv_at hl 0 rfl) ?_
  refine m_get (ci := 9) (C := RX9) (T := TX9) (N := 18) (v := v 8) hx hb hts in_X9 hown hK hM hR rfl 8 (by decide) fl_32 (fun _ h => h) rfl dX9_move_4 ?_
  refine tpv (hv8) ?_
  refine bz_ne (tgt := 14) hx hb dX9_move_7 (by decide) (fun c_7 n_7 => ?_) (fun c_7 n_7 => ?_)
  · skip
    have q0 : ¬ g = 0 := fun z => c_7 (by rw [z]; rfl)
    refine lv_aload_n hx hb dX9_move_14 rfl (lv_at hl 0 rfl) ?_
    refine m_get (ci := 9) (C := RX9) (T := TX9) (N := 18) (v := v 8) hx hb hts in_X9 hown hK hM hR rfl 8 (by decide) fl_32 (fun _ h => h) rfl dX9_move_15 ?_
    refine tpv (hv8) ?_
    refine lv_iconst (v := 1) hx hb dX9_move_18 (by decide) ?_
    refine bi_ne (tgt := 28) hx hb dX9_move_19 (by decide) (fun c_19 n_19 => ?_) (fun c_19 n_19 => ?_)
    · skip
      have q1 : ¬ g = 1 := fun z => c_19 (by rw [z]; rfl)
      refine lv_aload_n hx hb dX9_move_28 rfl (lv_at hl 0 rfl) ?_
      refine m_get (ci := 9) (C := RX9) (T := TX9) (N := 18) (v := v 8) hx hb hts in_X9 hown hK hM hR rfl 8 (by decide) fl_32 (fun _ h => h) rfl dX9_move_29 ?_
      refine tpv (hv8) ?_
      refine lv_iconst (v := 2) hx hb dX9_move_32 (by decide) ?_
      refine bi_ne (tgt := 40) hx hb dX9_move_33 (by decide) (fun c_33 n_33 => ?_) (fun c_33 n_33 => ?_)
      · skip
        have q2 : ¬ g = 2 := fun z => c_33 (by rw [z]; rfl)
        refine lv_ldc2 hx hb hown cst_136 dX9_move_40 ?_
        refine tpl (x' := (lN (wyF g - 1))) (by rw [show g = 3 by omega]; rfl) ?_
        exact j_43 _ (lv_sub hl [0, 1, 2] rfl)
      · skip
        have q2 : g = 2 := (nI_eq (b := 2) (by omega) (by decide)).mp c_33
        refine lv_lconst (v := 0) hx hb dX9_move_36 (by decide) ?_
        refine tpl (x' := (lN (wyF g - 1))) (by rw [q2]; rfl) ?_
        refine lv_goto (tgt := 43) hx hb dX9_move_37 (by decide) ?_
        exact j_43 _ (lv_sub hl [0, 1, 2] rfl)
    · skip
      have q1 : g = 1 := (nI_eq (b := 1) (by omega) (by decide)).mp c_19
      refine lv_ldc2 hx hb hown cst_46 dX9_move_22 ?_
      refine tpl (x' := (lN (wyF g - 1))) (by rw [q1]; rfl) ?_
      refine lv_goto (tgt := 43) hx hb dX9_move_25 (by decide) ?_
      exact j_43 _ (lv_sub hl [0, 1, 2] rfl)
  · skip
    have q0 : g = 0 := (nI_eq (b := 0) (by omega) (by decide)).mp c_7
    refine lv_lconst (v := 1) hx hb dX9_move_10 (by decide) ?_
    refine tpl (x' := (lN (wyF g - 1))) (by rw [q0]; rfl) ?_
    refine lv_goto (tgt := 43) hx hb dX9_move_11 (by decide) ?_
    exact j_43 _ (lv_sub hl [0, 1, 2] rfl)
