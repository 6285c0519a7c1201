set_option maxHeartbeats 1000000 in
set_option maxRecDepth 100000 in
theorem k_X9_lostUpTo (l : Launch) (D : va_G) (cA : Nat → ClassId) (M : mp) (m0 : Nat) (v : Nat → Value) (wn ov th it : Nat) (g : Int32) (mi : Bool) (k0 : Int32)  (hR : M m0 = some (.inr (9, rL v))) (hv3 : v 3 = .ref wn) (hv4 : v 4 = .ref ov) (hv5 : v 5 = .ref th) (hv6 : v 6 = .ref it) (hRT : rtW cA M wn ov th it)  : MC l D cA yX9_lostUpTo wsX9_lostUpTo 2 54 0 0 [.ref m0, .int g, .int (bI mi), .int k0] M (fun r M' => r = some (.int (luV g mi k0)) ∧ rtW cA M' wn ov th it ∧ kpL M M' [wn, ov, th, it]) := by
  refine MC.of (cc := cX9_lostUpTo) (maxL := 8) (ret := (some .int)) (by decide) rfl (Nat.le_of_ble_eq_true rfl) ?_
  intro p e s m args below meth c Q ls B hh hl hretv hreti hretz hretl hreta
  obtain ⟨hx, hb, hown, hts, hml, hK, hin⟩ := B
  have hM := hh.1
  have hM_0 := hh.1
  have hkp : kpL M M [wn, ov, th, it] := kpL.rf M _
  have hown : s.vm.findClass RX9 = some m.cls := hown
  have hl : lv_has ls 8 [(0, .ref m0), (1, .int g), (2, .int (bI mi)), (3, .int k0)] := hl
  have cst_125 := hts (.constantLong RX9 125 (60)) (by decide +kernel)
  have cst_130 := hts (.constantLong RX9 130 (10)) (by decide +kernel)
  have j_40 : ∀  (ls : Array Slot), (loG g mi k0) → lv_has ls 8 [(0, .ref m0), (1, .int g), (2, .int (bI mi)), (3, .int k0)] → W p l e ({ frames := 2, cells := 0, slots := 0, locals := 54 } : Room) s m args below meth c s.heap [] 0 0 Q (F0 m 40 ls []) := by
    intro  ls hq hl
    obtain ⟨hg013, eg, ek, hk6, hk10, hlu⟩ := hq
    obtain ⟨LL, hLL, hL3, hL1⟩ : ∃ LL, LL = (if nB g = 3 then nB k0 + 1 else 1) ∧ (nB g = 3 → LL = nB k0 + 1) ∧ (¬ nB g = 3 → LL = 1) := ⟨_, rfl, fun z => if_pos z, fun z => if_neg z⟩
    have hL6 : LL ≤ 61 := by by_cases z : nB g = 3; (rw [hL3 z]; omega); (rw [hL1 z]; omega)
    refine lv_iconst (v := 0) hx hb dX9_lostUpTo_40 (by decide) ?_
    refine tpi (x' := nI 0) (rfl) ?_
    refine lv_istore (lv' := [(4, .int (nI 0)), (0, .ref m0), (1, .int g), (2, .int (bI mi)), (3, .int k0)]) hx hb dX9_lostUpTo_41 hl (by decide) rfl (fun ls hl => ?_)
    refine lv_iconst (v := 0) hx hb dX9_lostUpTo_43 (by decide) ?_
    refine tpi (x' := nI 0) (rfl) ?_
    refine lv_istore (lv' := [(5, .int (nI 0)), (4, .int (nI 0)), (0, .ref m0), (1, .int g), (2, .int (bI mi)), (3, .int k0)]) hx hb dX9_lostUpTo_44 hl (by decide) rfl (fun ls hl => ?_)
    have j_46 : ∀ (fu : Nat) (a n : Nat) (M1 : mp) (H : Heap) (locs : List Loc) (ls : Array Slot), (a ≤ nB k0 + 1) → (n = ctA (nB g) mi (nB k0) a) → (rtW cA M1 wn ov th it) → (hw D M s.heap M1 H locs) → (kpL M M1 [wn, ov, th, it]) → (M1 m0 = some (.inr (9, rL v))) → (62 - a < fu) → lv_has ls 8 [(0, .ref m0), (1, .int g), (2, .int (bI mi)), (3, .int k0), (4, .int (nI n)), (5, .int (nI a))] → W p l e ({ frames := 2, cells := 0, slots := 0, locals := 54 } : Room) s m args below meth c H locs 0 0 Q (F0 m 46 ls []) := by
      intro fu
      induction fu with
      | zero => intro a n M1 H locs ls ha6 hn hRT hh hkp hR hm_46 _; exact absurd hm_46 (Nat.not_lt_zero _)
      | succ fu ih_46 =>
        intro a n M1 H locs ls ha6 hn hRT hh hkp hR hm_46 hl
        have hM := hh.1
        refine lv_iload hx hb dX9_lostUpTo_46 (lv_at hl 5 rfl) ?_
        refine lv_iload_n hx hb dX9_lostUpTo_48 rfl (lv_at hl 3 rfl) ?_
        refine bi_gt (tgt := 142) hx hb dX9_lostUpTo_49 (by decide) (fun c_49 n_49 => ?_) (fun c_49 n_49 => ?_)
        · skip
          have q4 : nB k0 < a := (nI_ltI (by omega) (by omega)).mp (by rw [← ek]; exact c_49)
          refine lv_iload hx hb dX9_lostUpTo_142 (lv_at hl 4 rfl) ?_
          exact hreti _ _ _ _ _ _ _ _ hh (⟨by rw [hlu, hn, show a = nB k0 + 1 by omega], hRT, hkp⟩) (by decide) (by decide) dX9_lostUpTo_144 rfl
        · skip
          have q4 : a ≤ nB k0 := (nI_leI (by omega) (by omega)).mp (by rw [← ek]; exact c_49)
          refine lv_iconst (v := 0) hx hb dX9_lostUpTo_52 (by decide) ?_
          refine tpi (x' := nI 0) (rfl) ?_
          refine lv_istore (lv' := [(6, .int (nI 0)), (0, .ref m0), (1, .int g), (2, .int (bI mi)), (3, .int k0), (4, .int (nI n)), (5, .int (nI a))]) hx hb dX9_lostUpTo_53 hl (by decide) rfl (fun ls hl => ?_)
          have j_55 : ∀ (fu : Nat) (b n : Nat) (M1 : mp) (H : Heap) (locs : List Loc) (ls : Array Slot), (b ≤ nB k0 + 1) → (n = ctA (nB g) mi (nB k0) a + ctB (nB g) mi (nB k0) a b) → (rtW cA M1 wn ov th it) → (hw D M s.heap M1 H locs) → (kpL M M1 [wn, ov, th, it]) → (M1 m0 = some (.inr (9, rL v))) → (62 - b < fu) → lv_has ls 8 [(0, .ref m0), (1, .int g), (2, .int (bI mi)), (3, .int k0), (4, .int (nI n)), (5, .int (nI a)), (6, .int (nI b))] → W p l e ({ frames := 2, cells := 0, slots := 0, locals := 54 } : Room) s m args below meth c H locs 0 0 Q (F0 m 55 ls []) := by
            intro fu
            induction fu with
            | zero => intro b n M1 H locs ls hb6 hn hRT hh hkp hR hm_55 _; exact absurd hm_55 (Nat.not_lt_zero _)
            | succ fu ih_55 =>
              intro b n M1 H locs ls hb6 hn hRT hh hkp hR hm_55 hl
              have hM := hh.1
              refine lv_iload hx hb dX9_lostUpTo_55 (lv_at hl 6 rfl) ?_
              refine lv_iload_n hx hb dX9_lostUpTo_57 rfl (lv_at hl 3 rfl) ?_
              refine bi_gt (tgt := 136) hx hb dX9_lostUpTo_58 (by decide) (fun c_58 n_58 => ?_) (fun c_58 n_58 => ?_)
              · skip
                have q5 : nB k0 < b := (nI_ltI (by omega) (by omega)).mp (by rw [← ek]; exact c_58)
                refine lv_iinc (v := nI (a + 1)) (lv' := [(5, .int (nI (a + 1))), (0, .ref m0), (1, .int g), (2, .int (bI mi)), (3, .int k0), (4, .int (nI n)), (6, .int (nI b))]) hx hb dX9_lostUpTo_136 hl (k := 5) rfl (nI_up _) (by decide) rfl (fun ls hl => ?_)
                refine lv_goto (tgt := 46) hx hb dX9_lostUpTo_139 (by decide) ?_
                exact ih_46 (a + 1) n _ _ _ _ (by omega) (by rw [hn, show b = nB k0 + 1 by omega]; rfl) hRT hh hkp hR (by omega) (lv_sub hl [1, 2, 3, 4, 5, 0] rfl)
              · skip
                have q5 : b ≤ nB k0 := (nI_leI (by omega) (by omega)).mp (by rw [← ek]; exact c_58)
                refine lv_iconst (v := 0) hx hb dX9_lostUpTo_61 (by decide) ?_
                refine tpi (x' := nI 0) (rfl) ?_
                refine lv_istore (lv' := [(7, .int (nI 0)), (0, .ref m0), (1, .int g), (2, .int (bI mi)), (3, .int k0), (4, .int (nI n)), (5, .int (nI a)), (6, .int (nI b))]) hx hb dX9_lostUpTo_62 hl (by decide) rfl (fun ls hl => ?_)
                have j_64 : ∀ (fu : Nat) (c1 n : Nat) (M1 : mp) (H : Heap) (locs : List Loc) (ls : Array Slot), (c1 ≤ LL) → (n = ctA (nB g) mi (nB k0) a + ctB (nB g) mi (nB k0) a b + ctC (nB g) mi (nB k0) a b c1) → (rtW cA M1 wn ov th it) → (hw D M s.heap M1 H locs) → (kpL M M1 [wn, ov, th, it]) → (M1 m0 = some (.inr (9, rL v))) → (62 - c1 < fu) → lv_has ls 8 [(0, .ref m0), (1, .int g), (2, .int (bI mi)), (3, .int k0), (4, .int (nI n)), (5, .int (nI a)), (6, .int (nI b)), (7, .int (nI c1))] → W p l e ({ frames := 2, cells := 0, slots := 0, locals := 54 } : Room) s m args below meth c H locs 0 0 Q (F0 m 64 ls []) := by
                  intro fu
                  induction fu with
                  | zero => intro c1 n M1 H locs ls hc6 hn hRT hh hkp hR hm_64 _; exact absurd hm_64 (Nat.not_lt_zero _)
                  | succ fu ih_64 =>
                    intro c1 n M1 H locs ls hc6 hn hRT hh hkp hR hm_64 hl
                    have hM := hh.1
                    obtain ⟨⟨fw, fo, hwn, hov, hT2⟩, ⟨ft, fi, hth, hit, hT3⟩⟩ := id hRT
                    refine lv_iload hx hb dX9_lostUpTo_64 (lv_at hl 7 rfl) ?_
                    have j_79 : ∀  (ls : Array Slot), (c1 < LL) → lv_has ls 8 [(0, .ref m0), (1, .int g), (2, .int (bI mi)), (3, .int k0), (4, .int (nI n)), (5, .int (nI a)), (6, .int (nI b)), (7, .int (nI c1))] → W p l e ({ frames := 2, cells := 0, slots := 0, locals := 54 } : Room) s m args below meth c H locs 0 0 Q (F0 m 79 ls []) := by
                      intro  ls hcl hl
                      refine lv_iload hx hb dX9_lostUpTo_79 (lv_at hl 4 rfl) ?_
                      refine lv_iload_n hx hb dX9_lostUpTo_81 rfl (lv_at hl 1 rfl) ?_
                      refine lv_iconst (v := 3) hx hb dX9_lostUpTo_82 (by decide) ?_
                      refine bi_ne (tgt := 103) hx hb dX9_lostUpTo_83 (by decide) (fun c_83 n_83 => ?_) (fun c_83 n_83 => ?_)
                      · skip
                        have q3 : ¬ nB g = 3 := fun z => c_83 (by rw [eg, z]; rfl)
                        have h1L := hL1 q3
                        have hc0 : c1 = 0 := by omega
                        refine lv_aload_n hx hb dX9_lostUpTo_103 rfl (lv_at hl 0 rfl) ?_
                        refine lv_iload_n hx hb dX9_lostUpTo_104 rfl (lv_at hl 1 rfl) ?_
                        refine lv_iload_n hx hb dX9_lostUpTo_105 rfl (lv_at hl 2 rfl) ?_
                        refine lv_iload hx hb dX9_lostUpTo_106 (lv_at hl 5 rfl) ?_
                        refine lv_iload hx hb dX9_lostUpTo_108 (lv_at hl 6 rfl) ?_
                        refine cmV (As := [.int g, .int (bI mi), .int (nI a), .int (nI b)]) (rest := [.int (nI n)]) (by have h9 := k_X9_wonAt l D cA M1 m0 v wn ov fw fo (nB g) mi a b hR hv3 hv4 hwn hov hT2 (by omega) (by omega) (by omega); rw [← eg] at h9; exact h9) ⟨hx, hb, hml, hown, hts⟩ (cwV 4 hts gX9_lostUpTo_X9_wonAt rfl rfl rfl (by decide +kernel) ⟨by decide, by decide⟩) hK hh hR rfl rfl hl.1 rfl (Nat.le_of_ble_eq_true rfl) dX9_lostUpTo_110 ⟨by decide, by decide⟩ (fun v9 M1 H1 locs1 hpost hh hz9 hk9 hn9 => ?_)
                        obtain ⟨rfl, ⟨fw', fo', hwn1, hov1, hT21⟩, hkc⟩ := hpost
                        have hRT1 : rtW cA M1 wn ov th it := ⟨⟨fw', fo', hwn1, hov1, hT21⟩, ⟨ft, fi, hkc _ _ hth (ni2 (mp_ne hth hwn (by simp)) (mp_ne hth hov (by simp))), hkc _ _ hit (ni2 (mp_ne hit hwn (by simp)) (mp_ne hit hov (by simp))), hT3⟩⟩
                        have hR : M1 m0 = some (.inr (9, rL v)) := hkc _ _ hR (ni2 (mp_ne hR hwn (by simp)) (mp_ne hR hov (by simp)))
                        have hkp := hkp.call hkc (by simp)
                        have hM := hh.1
                        refine W.eq (g2 := F0 m 113 ls [.int (bI (!lsB (nB g) mi a b)), .int (nI n)]) rfl ?_
                        refine bz_eq (tgt := 120) hx hb dX9_lostUpTo_113 (by decide) (fun c_113 n_113 => ?_) (fun c_113 n_113 => ?_)
                        · skip
                          have hls := bI_n0 c_113
                          refine lv_iconst (v := 1) hx hb dX9_lostUpTo_120 (by decide) ?_
                          refine lv_iadd hx hb dX9_lostUpTo_121 ?_
                          refine tpi (x' := nI (n + 1)) (nI_1 n) ?_
                          refine lv_istore (lv' := [(4, .int (nI (n + 1))), (0, .ref m0), (1, .int g), (2, .int (bI mi)), (3, .int k0), (5, .int (nI a)), (6, .int (nI b)), (7, .int (nI c1))]) hx hb dX9_lostUpTo_122 hl (by decide) rfl (fun ls hl => ?_)
                          refine lv_iinc (v := nI (c1 + 1)) (lv' := [(7, .int (nI (c1 + 1))), (4, .int (nI (n + 1))), (0, .ref m0), (1, .int g), (2, .int (bI mi)), (3, .int k0), (5, .int (nI a)), (6, .int (nI b))]) hx hb dX9_lostUpTo_124 hl (k := 7) rfl (nI_up _) (by decide) rfl (fun ls hl => ?_)
                          refine lv_goto (tgt := 64) hx hb dX9_lostUpTo_127 (by decide) ?_
                          have hRT := hRT1
                          exact ih_64 (c1 + 1) (n + 1) _ _ _ _ (by omega) (by rw [hn]; show _ = _ + (ctC (nB g) mi (nB k0) a b c1 + bN (lsG (nB g) mi a b c1)); unfold lsG; rw [if_neg q3, hls]; rfl) hRT hh hkp hR (by omega) (lv_sub hl [2, 3, 4, 5, 1, 6, 7, 0] rfl)
                        · skip
                          have hls := bI_nn0 c_113
                          refine lv_iconst (v := 0) hx hb dX9_lostUpTo_116 (by decide) ?_
                          refine lv_goto (tgt := 121) hx hb dX9_lostUpTo_117 (by decide) ?_
                          refine lv_iadd hx hb dX9_lostUpTo_121 ?_
                          refine tpi (x' := nI n) (Int32.add_zero _) ?_
                          refine lv_istore (lv' := [(4, .int (nI n)), (0, .ref m0), (1, .int g), (2, .int (bI mi)), (3, .int k0), (5, .int (nI a)), (6, .int (nI b)), (7, .int (nI c1))]) hx hb dX9_lostUpTo_122 hl (by decide) rfl (fun ls hl => ?_)
                          refine lv_iinc (v := nI (c1 + 1)) (lv' := [(7, .int (nI (c1 + 1))), (4, .int (nI n)), (0, .ref m0), (1, .int g), (2, .int (bI mi)), (3, .int k0), (5, .int (nI a)), (6, .int (nI b))]) hx hb dX9_lostUpTo_124 hl (k := 7) rfl (nI_up _) (by decide) rfl (fun ls hl => ?_)
                          refine lv_goto (tgt := 64) hx hb dX9_lostUpTo_127 (by decide) ?_
                          have hRT := hRT1
                          exact ih_64 (c1 + 1) n _ _ _ _ (by omega) (by rw [hn]; show _ = _ + (ctC (nB g) mi (nB k0) a b c1 + bN (lsG (nB g) mi a b c1)); unfold lsG; rw [if_neg q3, hls]; rfl) hRT hh hkp hR (by omega) (lv_sub hl [2, 3, 4, 5, 1, 6, 7, 0] rfl)
                      · skip
                        have q3 : nB g = 3 := by rw [c_83]; decide
                        have h1L := hL3 q3
                        have h10 := hk10 q3
                        refine lv_aload_n hx hb dX9_lostUpTo_86 rfl (lv_at hl 0 rfl) ?_
                        refine lv_iload_n hx hb dX9_lostUpTo_87 rfl (lv_at hl 2 rfl) ?_
                        refine lv_iload hx hb dX9_lostUpTo_88 (lv_at hl 5 rfl) ?_
                        refine lv_iload hx hb dX9_lostUpTo_90 (lv_at hl 6 rfl) ?_
                        refine lv_iload hx hb dX9_lostUpTo_92 (lv_at hl 7 rfl) ?_
                        refine cmV (As := [.int (bI mi), .int (nI a), .int (nI b), .int (nI c1)]) (rest := [.int (nI n)]) (by have h9 := k_X9_threeAt l D cA _ m0 v th it ft fi mi a b c1 hR hv5 hv6 hth (by omega) (by omega) (by omega) hit hT3; exact h9) ⟨hx, hb, hml, hown, hts⟩ (cwV 4 hts gX9_lostUpTo_X9_threeAt rfl rfl rfl (by decide +kernel) ⟨by decide, by decide⟩) hK hh hR rfl rfl hl.1 rfl (Nat.le_of_ble_eq_true rfl) dX9_lostUpTo_94 ⟨by decide, by decide⟩ (fun v9 M1 H1 locs1 hpost hh hz9 hk9 hn9 => ?_)
                        obtain ⟨rfl, ⟨ft', fi', hth1, hit1, hT31⟩, hkc⟩ := hpost
                        have hRT1 : rtW cA M1 wn ov th it := ⟨⟨fw, fo, hkc _ _ hwn (ni2 (mp_ne hwn hth (by simp)) (mp_ne hwn hit (by simp))), hkc _ _ hov (ni2 (mp_ne hov hth (by simp)) (mp_ne hov hit (by simp))), hT2⟩, ⟨ft', fi', hth1, hit1, hT31⟩⟩
                        have hR : M1 m0 = some (.inr (9, rL v)) := hkc _ _ hR (ni2 (mp_ne hR hth (by simp)) (mp_ne hR hit (by simp)))
                        have hkp := hkp.call hkc (by simp)
                        have hM := hh.1
                        refine W.eq (g2 := F0 m 97 ls [.int (bI (!ls3 mi a b c1)), .int (nI n)]) rfl ?_
                        refine bz_eq (tgt := 120) hx hb dX9_lostUpTo_97 (by decide) (fun c_97 n_97 => ?_) (fun c_97 n_97 => ?_)
                        · skip
                          have hls := bI_n0 c_97
                          refine lv_iconst (v := 1) hx hb dX9_lostUpTo_120 (by decide) ?_
                          refine lv_iadd hx hb dX9_lostUpTo_121 ?_
                          refine tpi (x' := nI (n + 1)) (nI_1 n) ?_
                          refine lv_istore (lv' := [(4, .int (nI (n + 1))), (0, .ref m0), (1, .int g), (2, .int (bI mi)), (3, .int k0), (5, .int (nI a)), (6, .int (nI b)), (7, .int (nI c1))]) hx hb dX9_lostUpTo_122 hl (by decide) rfl (fun ls hl => ?_)
                          refine lv_iinc (v := nI (c1 + 1)) (lv' := [(7, .int (nI (c1 + 1))), (4, .int (nI (n + 1))), (0, .ref m0), (1, .int g), (2, .int (bI mi)), (3, .int k0), (5, .int (nI a)), (6, .int (nI b))]) hx hb dX9_lostUpTo_124 hl (k := 7) rfl (nI_up _) (by decide) rfl (fun ls hl => ?_)
                          refine lv_goto (tgt := 64) hx hb dX9_lostUpTo_127 (by decide) ?_
                          have hRT := hRT1
                          exact ih_64 (c1 + 1) (n + 1) _ _ _ _ (by omega) (by rw [hn]; show _ = _ + (ctC (nB g) mi (nB k0) a b c1 + bN (lsG (nB g) mi a b c1)); unfold lsG; rw [if_pos q3, hls]; rfl) hRT hh hkp hR (by omega) (lv_sub hl [2, 3, 4, 5, 1, 6, 7, 0] rfl)
                        · skip
                          have hls := bI_nn0 c_97
                          refine lv_goto (tgt := 116) hx hb dX9_lostUpTo_100 (by decide) ?_
                          refine lv_iconst (v := 0) hx hb dX9_lostUpTo_116 (by decide) ?_
                          refine lv_goto (tgt := 121) hx hb dX9_lostUpTo_117 (by decide) ?_
                          refine lv_iadd hx hb dX9_lostUpTo_121 ?_
                          refine tpi (x' := nI n) (Int32.add_zero _) ?_
                          refine lv_istore (lv' := [(4, .int (nI n)), (0, .ref m0), (1, .int g), (2, .int (bI mi)), (3, .int k0), (5, .int (nI a)), (6, .int (nI b)), (7, .int (nI c1))]) hx hb dX9_lostUpTo_122 hl (by decide) rfl (fun ls hl => ?_)
                          refine lv_iinc (v := nI (c1 + 1)) (lv' := [(7, .int (nI (c1 + 1))), (4, .int (nI n)), (0, .ref m0), (1, .int g), (2, .int (bI mi)), (3, .int k0), (5, .int (nI a)), (6, .int (nI b))]) hx hb dX9_lostUpTo_124 hl (k := 7) rfl (nI_up _) (by decide) rfl (fun ls hl => ?_)
                          refine lv_goto (tgt := 64) hx hb dX9_lostUpTo_127 (by decide) ?_
                          have hRT := hRT1
                          exact ih_64 (c1 + 1) n _ _ _ _ (by omega) (by rw [hn]; show _ = _ + (ctC (nB g) mi (nB k0) a b c1 + bN (lsG (nB g) mi a b c1)); unfold lsG; rw [if_pos q3, hls]; rfl) hRT hh hkp hR (by omega) (lv_sub hl [2, 3, 4, 5, 1, 6, 7, 0] rfl)
                    refine lv_iload_n hx hb dX9_lostUpTo_66 rfl (lv_at hl 1 rfl) ?_
                    refine lv_iconst (v := 3) hx hb dX9_lostUpTo_67 (by decide) ?_
                    refine bi_ne (tgt := 75) hx hb dX9_lostUpTo_68 (by decide) (fun c_68 n_68 => ?_) (fun c_68 n_68 => ?_)
                    · skip
                      have q3 : ¬ nB g = 3 := fun z => c_68 (by rw [eg, z]; rfl)
                      refine lv_iconst (v := 0) hx hb dX9_lostUpTo_75 (by decide) ?_
                      refine bi_gt (tgt := 130) hx hb dX9_lostUpTo_76 (by decide) (fun c_76 n_76 => ?_) (fun c_76 n_76 => ?_)
                      · skip
                        have q4 : 0 < c1 := (nI_ltI (a := 0) (by decide) (by omega)).mp c_76
                        have h1L := hL1 q3
                        refine lv_iinc (v := nI (b + 1)) (lv' := [(6, .int (nI (b + 1))), (0, .ref m0), (1, .int g), (2, .int (bI mi)), (3, .int k0), (4, .int (nI n)), (5, .int (nI a)), (7, .int (nI c1))]) hx hb dX9_lostUpTo_130 hl (k := 6) rfl (nI_up _) (by decide) rfl (fun ls hl => ?_)
                        refine lv_goto (tgt := 55) hx hb dX9_lostUpTo_133 (by decide) ?_
                        exact ih_55 (b + 1) n _ _ _ _ (by omega) (by rw [hn, show c1 = LL by omega, hLL]; exact Nat.add_assoc _ _ _) hRT hh hkp hR (by omega) (lv_sub hl [1, 2, 3, 4, 5, 6, 0] rfl)
                      · skip
                        have q4 : c1 ≤ 0 := (nI_leI (b := 0) (by omega) (by decide)).mp c_76
                        have h1L := hL1 q3
                        exact j_79 _ (by omega) (lv_sub hl [0, 1, 2, 3, 4, 5, 6, 7] rfl)
                    · skip
                      have q3 : nB g = 3 := by rw [c_68]; decide
                      refine lv_iload_n hx hb dX9_lostUpTo_71 rfl (lv_at hl 3 rfl) ?_
                      refine lv_goto (tgt := 76) hx hb dX9_lostUpTo_72 (by decide) ?_
                      refine bi_gt (tgt := 130) hx hb dX9_lostUpTo_76 (by decide) (fun c_76 n_76 => ?_) (fun c_76 n_76 => ?_)
                      · skip
                        have q4 : nB k0 < c1 := (nI_ltI (by omega) (by omega)).mp (by rw [← ek]; exact c_76)
                        have h1L := hL3 q3
                        refine lv_iinc (v := nI (b + 1)) (lv' := [(6, .int (nI (b + 1))), (0, .ref m0), (1, .int g), (2, .int (bI mi)), (3, .int k0), (4, .int (nI n)), (5, .int (nI a)), (7, .int (nI c1))]) hx hb dX9_lostUpTo_130 hl (k := 6) rfl (nI_up _) (by decide) rfl (fun ls hl => ?_)
                        refine lv_goto (tgt := 55) hx hb dX9_lostUpTo_133 (by decide) ?_
                        exact ih_55 (b + 1) n _ _ _ _ (by omega) (by rw [hn, show c1 = LL by omega, hLL]; exact Nat.add_assoc _ _ _) hRT hh hkp hR (by omega) (lv_sub hl [1, 2, 3, 4, 5, 6, 0] rfl)
                      · skip
                        have q4 : c1 ≤ nB k0 := (nI_leI (by omega) (by omega)).mp (by rw [← ek]; exact c_76)
                        have h1L := hL3 q3
                        exact j_79 _ (by omega) (lv_sub hl [0, 1, 2, 3, 4, 5, 6, 7] rfl)
                exact j_64 (63) 0 n _ _ _ _ (by omega) hn hRT hh hkp hR (by omega) (lv_sub hl [1, 2, 3, 4, 5, 6, 7, 0] rfl)
          exact j_55 (63) 0 n _ _ _ _ (by omega) hn hRT hh hkp hR (by omega) (lv_sub hl [1, 2, 3, 4, 5, 6, 0] rfl)
    exact j_46 (63) 0 0 _ _ _ _ (by omega) rfl hRT hh hkp hR (by omega) (lv_sub hl [2, 3, 4, 5, 1, 0] rfl)
  have j_14 : ∀  (ls : Array Slot), (g = 0 ∨ g = 1 ∨ g = 3) → lv_has ls 8 [(0, .ref m0), (1, .int g), (2, .int (bI mi)), (3, .int k0)] → W p l e ({ frames := 2, cells := 0, slots := 0, locals := 54 } : Room) s m args below meth c s.heap [] 0 0 Q (F0 m 14 ls []) := by
    intro  ls q013 hl
    refine lv_iload_n hx hb dX9_lostUpTo_14 rfl (lv_at hl 3 rfl) ?_
    refine lv_i2l hx hb dX9_lostUpTo_15 rfl ?_
    refine lv_lconst (v := 1) hx hb dX9_lostUpTo_16 (by decide) ?_
    refine lv_iload_n hx hb dX9_lostUpTo_17 rfl (lv_at hl 1 rfl) ?_
    refine lv_iconst (v := 3) hx hb dX9_lostUpTo_18 (by decide) ?_
    refine bi_ne (tgt := 28) hx hb dX9_lostUpTo_19 (by decide) (fun c_19 n_19 => ?_) (fun c_19 n_19 => ?_)
    · skip
      refine lv_ldc2 hx hb hown cst_125 dX9_lostUpTo_28 ?_
      refine cpS (As := [.long ((k0).toInt64), .long 1, .long 60]) (rest := []) (k_X9_in l D cA _ (k0.toInt64) 1 60) ⟨hx, hb, hml, hown, hts⟩ (va_cwS 3 hts gX9_lostUpTo_X9_in rfl rfl rfl (by decide +kernel) ⟨by decide, by decide⟩) hK hM rfl hl.1 rfl (Nat.le_of_ble_eq_true rfl) dX9_lostUpTo_31 ⟨by decide, by decide⟩ ?_
      refine bz_ne (tgt := 40) hx hb dX9_lostUpTo_34 (by decide) (fun c_34 n_34 => ?_) (fun c_34 n_34 => ?_)
      · skip
        have h1 := bI_ne0 c_34
        exact j_40 _ (lo_2 (by rcases q013 with z | z | z; exact Or.inl z; exact Or.inr z; exact absurd z c_19) h1) (lv_sub hl [0, 1, 2, 3] rfl)
      · skip
        have h1 := bI_eq0 c_34
        refine lv_bipush (v := (-2)) hx hb dX9_lostUpTo_37 (by decide) ?_
        exact hreti _ _ _ _ _ _ _ _ hh (⟨by rw [lo_b (Or.inr (Or.inr ⟨by rcases q013 with z | z | z; exact Or.inl z; exact Or.inr z; exact absurd z c_19, h1⟩))], hRT, hkp⟩) (by decide) (by decide) dX9_lostUpTo_39 rfl
    · skip
      refine lv_ldc2 hx hb hown cst_130 dX9_lostUpTo_22 ?_
      refine lv_goto (tgt := 31) hx hb dX9_lostUpTo_25 (by decide) ?_
      refine cpS (As := [.long ((k0).toInt64), .long 1, .long 10]) (rest := []) (k_X9_in l D cA _ (k0.toInt64) 1 10) ⟨hx, hb, hml, hown, hts⟩ (va_cwS 3 hts gX9_lostUpTo_X9_in rfl rfl rfl (by decide +kernel) ⟨by decide, by decide⟩) hK hM rfl hl.1 rfl (Nat.le_of_ble_eq_true rfl) dX9_lostUpTo_31 ⟨by decide, by decide⟩ ?_
      refine bz_ne (tgt := 40) hx hb dX9_lostUpTo_34 (by decide) (fun c_34 n_34 => ?_) (fun c_34 n_34 => ?_)
      · skip
        have h1 := bI_ne0 c_34
        exact j_40 _ (lo_3 c_19 h1) (lv_sub hl [0, 1, 2, 3] rfl)
      · skip
        have h1 := bI_eq0 c_34
        refine lv_bipush (v := (-2)) hx hb dX9_lostUpTo_37 (by decide) ?_
        exact hreti _ _ _ _ _ _ _ _ hh (⟨by rw [lo_b (Or.inr (Or.inl ⟨c_19, h1⟩))], hRT, hkp⟩) (by decide) (by decide) dX9_lostUpTo_39 rfl
  refine lv_iload_n hx hb dX9_lostUpTo_0 rfl (lv_at hl 1 rfl) ?_
  refine bz_eq (tgt := 14) hx hb dX9_lostUpTo_1 (by decide) (fun c_1 n_1 => ?_) (fun c_1 n_1 => ?_)
  · skip
    exact j_14 _ (Or.inl c_1) (lv_sub hl [0, 1, 2, 3] rfl)
  · skip
    refine lv_iload_n hx hb dX9_lostUpTo_4 rfl (lv_at hl 1 rfl) ?_
    refine lv_iconst (v := 1) hx hb dX9_lostUpTo_5 (by decide) ?_
    refine bi_eq (tgt := 14) hx hb dX9_lostUpTo_6 (by decide) (fun c_6 n_6 => ?_) (fun c_6 n_6 => ?_)
    · skip
      exact j_14 _ (Or.inr (Or.inl c_6)) (lv_sub hl [0, 1, 2, 3] rfl)
    · skip
      refine lv_iload_n hx hb dX9_lostUpTo_9 rfl (lv_at hl 1 rfl) ?_
      refine lv_iconst (v := 3) hx hb dX9_lostUpTo_10 (by decide) ?_
      refine bi_ne (tgt := 37) hx hb dX9_lostUpTo_11 (by decide) (fun c_11 n_11 => ?_) (fun c_11 n_11 => ?_)
      · skip
        refine lv_bipush (v := (-2)) hx hb dX9_lostUpTo_37 (by decide) ?_
        exact hreti _ _ _ _ _ _ _ _ hh (⟨by rw [lo_b (Or.inl ⟨c_1, c_6, c_11⟩)], hRT, hkp⟩) (by decide) (by decide) dX9_lostUpTo_39 rfl
      · skip
        exact j_14 _ (Or.inr (Or.inr c_11)) (lv_sub hl [0, 1, 2, 3] rfl)
