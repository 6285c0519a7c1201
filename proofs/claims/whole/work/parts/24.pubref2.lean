set_option maxHeartbeats 1000000 in
set_option maxRecDepth 100000 in
theorem k_X9_bothMove (l : Launch) (D : va_G) (cA : Nat → ClassId) (M : mp) (m0 : Nat) (v : Nat → Value) (fb : Nat) (f : Nat → Int64) (ra : Nat) (f0 : Nat → Int64) (a b : Int64) (w : Int32) (hR : M m0 = some (.inr (9, rL v))) (hv0 : v 0 = .ref fb) (hfb : M fb = some (.inl (cA 0, 64, .inr (.inl f)))) (hf : ∀ j, j < 64 → f j = lN (fibN j)) (hv1 : v 1 = .ref ra) (hrw : M ra = some (.inl (cA 0, 500, .inr (.inl f0))))  : MC l D cA yX9_bothMove wsX9_bothMove 3 77 0 0 [.ref m0, .long a, .long b, .int w] M (fun r M' => r = some (.long (bmV a b w)) ∧ scr cA M M' m0 ra v) := by
  refine MC.of (cc := cX9_bothMove) (maxL := 12) (ret := (some .long)) (by decide) rfl (Nat.le_of_ble_eq_true rfl) ?_
  intro p e s m args below meth c Q ls B hh hl hretv hreti hretz hretl hreta
  obtain ⟨hx, hb, hown, hts, hml, hK, hin⟩ := B
  have hM := hh.1
  have hM_0 := hh.1
  have hkp : kpL M M [m0, ra] := kpL.rf M _
  have hown : s.vm.findClass RX9 = some m.cls := hown
  have hl : lv_has ls 12 [(0, .ref m0), (1, .long a), (3, .long b), (5, .int w)] := hl
  have cst_62 := hts (.constantLong RX9 62 (-2)) (by decide +kernel)
  have cst_86 := hts (.constantLong RX9 86 (-1)) (by decide +kernel)
  have cst_46 := hts (.constantLong RX9 46 (2)) (by decide +kernel)
  refine lv_lload_n hx hb dX9_bothMove_0 rfl (lv_at hl 1 rfl) ?_
  refine cpS (As := [.long a]) (rest := []) (k_X9_isHeap l D cA _ a) ⟨hx, hb, hml, hown, hts⟩ (va_cwS 1 hts gX9_bothMove_X9_isHeap rfl rfl rfl (by decide +kernel) ⟨by decide, by decide⟩) hK hM rfl hl.1 rfl (Nat.le_of_ble_eq_true rfl) dX9_bothMove_1 ⟨by decide, by decide⟩ ?_
  refine bz_eq (tgt := 25) hx hb dX9_bothMove_4 (by decide) (fun c_4 n_4 => ?_) (fun c_4 n_4 => ?_)
  · skip
    have h1 := bI_eq0 c_4
    refine lv_ldc2 hx hb hown cst_62 dX9_bothMove_25 ?_
    exact hretl _ _ _ _ _ _ _ _ hh (⟨by simp [bmV, h1], ⟨v, _, hR, fun _ _ _ _ _ => rfl, hrw, hkp⟩⟩) (by decide) (by decide) dX9_bothMove_28 rfl
  · skip
    have h1 := bI_ne0 c_4
    refine lv_lload_n hx hb dX9_bothMove_7 rfl (lv_at hl 2 rfl) ?_
    refine cpS (As := [.long b]) (rest := []) (k_X9_isHeap l D cA _ b) ⟨hx, hb, hml, hown, hts⟩ (va_cwS 1 hts gX9_bothMove_X9_isHeap rfl rfl rfl (by decide +kernel) ⟨by decide, by decide⟩) hK hM rfl hl.1 rfl (Nat.le_of_ble_eq_true rfl) dX9_bothMove_8 ⟨by decide, by decide⟩ ?_
    refine bz_eq (tgt := 25) hx hb dX9_bothMove_11 (by decide) (fun c_11 n_11 => ?_) (fun c_11 n_11 => ?_)
    · skip
      have h2 := bI_eq0 c_11
      refine lv_ldc2 hx hb hown cst_62 dX9_bothMove_25 ?_
      exact hretl _ _ _ _ _ _ _ _ hh (⟨by simp [bmV, h1, h2], ⟨v, _, hR, fun _ _ _ _ _ => rfl, hrw, hkp⟩⟩) (by decide) (by decide) dX9_bothMove_28 rfl
    · skip
      have h2 := bI_ne0 c_11
      refine lv_iload hx hb dX9_bothMove_14 (lv_at hl 3 rfl) ?_
      refine lv_i2l hx hb dX9_bothMove_16 rfl ?_
      refine lv_lconst (v := 0) hx hb dX9_bothMove_17 (by decide) ?_
      refine lv_lconst (v := 1) hx hb dX9_bothMove_18 (by decide) ?_
      refine cpS (As := [.long ((w).toInt64), .long 0, .long 1]) (rest := []) (k_X9_in l D cA _ (w.toInt64) 0 1) ⟨hx, hb, hml, hown, hts⟩ (va_cwS 3 hts gX9_bothMove_X9_in rfl rfl rfl (by decide +kernel) ⟨by decide, by decide⟩) hK hM rfl hl.1 rfl (Nat.le_of_ble_eq_true rfl) dX9_bothMove_19 ⟨by decide, by decide⟩ ?_
      refine bz_ne (tgt := 29) hx hb dX9_bothMove_22 (by decide) (fun c_22 n_22 => ?_) (fun c_22 n_22 => ?_)
      · skip
        have h3 := bI_ne0 c_22
        obtain ⟨ea, la⟩ := hp_heap h1
        obtain ⟨eb, lb⟩ := hp_heap h2
        have hpa := prtF_le la
        have hpb := prtF_le lb
        have hda := dF_le la lb
        have hcd := cut_le (k := dF (nL a) (nL b)) (by omega)
        have hmn : min (nL a) (nL b) ≤ 1000000000000 := by omega
        refine lv_aload_n hx hb dX9_bothMove_29 rfl (lv_at hl 0 rfl) ?_
        refine lv_lload_n hx hb dX9_bothMove_30 rfl (lv_at hl 2 rfl) ?_
        refine cmV (As := [.long b]) (rest := []) (by have h9 := k_X9_partner l D cA _ m0 v fb f (nL b) hR (hv0) hfb hf lb; rw [← eb] at h9; exact h9) ⟨hx, hb, hml, hown, hts⟩ (cwV 1 hts gX9_bothMove_X9_partner rfl rfl rfl (by decide +kernel) ⟨by decide, by decide⟩) hK hh hR rfl rfl hl.1 rfl (Nat.le_of_ble_eq_true rfl) dX9_bothMove_31 ⟨by decide, by decide⟩ (fun v9 M1 H1 locs1 hpost hh hz9 hk9 hn9 => ?_)
        obtain ⟨rfl, ⟨v1, hR1, hg1⟩, hkc⟩ := hpost
        have hfb : M1 fb = some (.inl (cA 0, 64, .inr (.inl f))) := hkc.k1 hR hfb (by simp)
        have hrw : M1 ra = some (.inl (cA 0, 500, .inr (.inl f0))) := hkc.k1 hR hrw (by simp)
        have hR : M1 m0 = some (.inr (9, rL v1)) := hR1
        have hkp := hkp.call hkc (by simp)
        have hM := hh.1
        refine W.eq (g2 := F0 m 34 ls [.long (lN (prtF (nL b)))]) rfl ?_
        refine lv_lstore (lv' := [(6, .long (lN (prtF (nL b)))), (0, .ref m0), (1, .long a), (3, .long b), (5, .int w)]) hx hb dX9_bothMove_34 hl (by decide) rfl (fun ls hl => ?_)
        refine lv_lload hx hb dX9_bothMove_36 (lv_at hl 0 rfl) ?_
        refine lv_lload_n hx hb dX9_bothMove_38 rfl (lv_at hl 2 rfl) ?_
        refine bl_ge (tgt := 57) hx hb dX9_bothMove_39 dX9_bothMove_40 (by decide) (fun c_40 n_40 => ?_) (fun c_40 n_40 => ?_)
        · skip
          have q1 : ¬ prtF (nL b) < nL a := fun z => n_40 ((ltL rfl ea (by omega) (by omega)).mpr z)
          refine lv_aload_n hx hb dX9_bothMove_57 rfl (lv_at hl 1 rfl) ?_
          refine lv_lload_n hx hb dX9_bothMove_58 rfl (lv_at hl 2 rfl) ?_
          refine cmV (As := [.long a]) (rest := []) (by have h9 := k_X9_partner l D cA _ m0 v1 fb f (nL a) hR ((hg1 0 (by decide) (by decide)).trans (hv0)) hfb hf la; rw [← ea] at h9; exact h9) ⟨hx, hb, hml, hown, hts⟩ (cwV 1 hts gX9_bothMove_X9_partner rfl rfl rfl (by decide +kernel) ⟨by decide, by decide⟩) hK hh hR rfl rfl hl.1 rfl (Nat.le_of_ble_eq_true rfl) dX9_bothMove_59 ⟨by decide, by decide⟩ (fun v9 M1 H1 locs1 hpost hh hz9 hk9 hn9 => ?_)
          obtain ⟨rfl, ⟨v2, hR1, hg2⟩, hkc⟩ := hpost
          have hfb : M1 fb = some (.inl (cA 0, 64, .inr (.inl f))) := hkc.k1 hR hfb (by simp)
          have hrw : M1 ra = some (.inl (cA 0, 500, .inr (.inl f0))) := hkc.k1 hR hrw (by simp)
          have hR : M1 m0 = some (.inr (9, rL v2)) := hR1
          have hkp := hkp.call hkc (by simp)
          have hM := hh.1
          refine W.eq (g2 := F0 m 62 ls [.long (lN (prtF (nL a)))]) rfl ?_
          refine lv_lstore (lv' := [(6, .long (lN (prtF (nL a)))), (0, .ref m0), (1, .long a), (3, .long b), (5, .int w)]) hx hb dX9_bothMove_62 hl (by decide) rfl (fun ls hl => ?_)
          refine lv_lload hx hb dX9_bothMove_64 (lv_at hl 0 rfl) ?_
          refine lv_lload_n hx hb dX9_bothMove_66 rfl (lv_at hl 3 rfl) ?_
          refine bl_ge (tgt := 85) hx hb dX9_bothMove_67 dX9_bothMove_68 (by decide) (fun c_68 n_68 => ?_) (fun c_68 n_68 => ?_)
          · skip
            have q2 : ¬ prtF (nL a) < nL b := fun z => n_68 ((ltL rfl eb (by omega) (by omega)).mpr z)
            refine lv_lload_n hx hb dX9_bothMove_85 rfl (lv_at hl 2 rfl) ?_
            refine lv_lload_n hx hb dX9_bothMove_86 rfl (lv_at hl 3 rfl) ?_
            refine bl_ge (tgt := 95) hx hb dX9_bothMove_87 dX9_bothMove_88 (by decide) (fun c_88 n_88 => ?_) (fun c_88 n_88 => ?_)
            · skip
              have hba : nL b ≤ nL a := (leL eb ea (by omega) (by omega)).mp c_88
              refine lv_lload_n hx hb dX9_bothMove_95 rfl (lv_at hl 3 rfl) ?_
              refine tpl (x' := lN (min (nL a) (nL b))) (by rw [Nat.min_eq_right (by omega)]; exact eb) ?_
              refine lv_lstore (lv' := [(8, .long (lN (min (nL a) (nL b)))), (6, .long (lN (prtF (nL a)))), (0, .ref m0), (1, .long a), (3, .long b), (5, .int w)]) hx hb dX9_bothMove_96 hl (by decide) rfl (fun ls hl => ?_)
              refine lv_lload_n hx hb dX9_bothMove_98 rfl (lv_at hl 3 rfl) ?_
              refine lv_lload_n hx hb dX9_bothMove_99 rfl (lv_at hl 4 rfl) ?_
              refine bl_ge (tgt := 110) hx hb dX9_bothMove_100 dX9_bothMove_101 (by decide) (fun c_101 n_101 => ?_) (fun c_101 n_101 => ?_)
              · skip
                refine lv_lload_n hx hb dX9_bothMove_110 rfl (lv_at hl 3 rfl) ?_
                refine lv_lload_n hx hb dX9_bothMove_111 rfl (lv_at hl 4 rfl) ?_
                refine lv_lsub hx hb dX9_bothMove_112 ?_
                refine tpl (x' := lN (dF (nL a) (nL b))) (dfL2 ea eb (by omega)) ?_
                refine lv_lstore (lv' := [(10, .long (lN (dF (nL a) (nL b)))), (8, .long (lN (min (nL a) (nL b)))), (6, .long (lN (prtF (nL a)))), (0, .ref m0), (1, .long a), (3, .long b), (5, .int w)]) hx hb dX9_bothMove_113 hl (by decide) rfl (fun ls hl => ?_)
                refine lv_aload_n hx hb dX9_bothMove_115 rfl (lv_at hl 3 rfl) ?_
                refine lv_lload hx hb dX9_bothMove_116 (lv_at hl 0 rfl) ?_
                refine cpV (As := [.long (lN (dF (nL a) (nL b)))]) (rest := []) (k_X9_lesser l D cA _ m0 (dF (nL a) (nL b)) ⟨_, fb, f, hR, (hg2 0 (by decide) (by decide)).trans ((hg1 0 (by decide) (by decide)).trans (hv0)), hfb, hf⟩ (by omega)) ⟨hx, hb, hml, hown, hts⟩ (cwV 1 hts gX9_bothMove_X9_lesser rfl rfl rfl (by decide +kernel) ⟨by decide, by decide⟩) hK hM hR rfl rfl hl.1 rfl (Nat.le_of_ble_eq_true rfl) dX9_bothMove_118 ⟨by decide, by decide⟩ ?_
                refine lv_lload hx hb dX9_bothMove_121 (lv_at hl 1 rfl) ?_
                refine bl_ge (tgt := 148) hx hb dX9_bothMove_123 dX9_bothMove_124 (by decide) (fun c_124 n_124 => ?_) (fun c_124 n_124 => ?_)
                · skip
                  have q3 : ¬ cutF (dF (nL a) (nL b)) < min (nL a) (nL b) := fun z => n_124 ((ln_lt (by omega) (by omega)).mpr z)
                  have ew := wF3 q1 q2 q3
                  refine lv_iload hx hb dX9_bothMove_148 (lv_at hl 6 rfl) ?_
                  refine bz_ne (tgt := 159) hx hb dX9_bothMove_150 (by decide) (fun c_150 n_150 => ?_) (fun c_150 n_150 => ?_)
                  · skip
                    refine lv_lconst (v := 0) hx hb dX9_bothMove_159 (by decide) ?_
                    exact hretl _ _ _ _ _ _ _ _ hh (⟨by unfold bmV; rw [show hpB a = true from h1, show hpB b = true from h2, h3, if_pos t3, if_neg c_150, ew.2]; rfl, ⟨v2, _, hR, fun k h1 h2 h3 h4 => (hg2 k h2 h3).trans (hg1 k h2 h3), hrw, hkp⟩⟩) (by decide) (by decide) dX9_bothMove_160 rfl
                  · skip
                    refine lv_ldc2 hx hb hown cst_86 dX9_bothMove_153 ?_
                    refine lv_goto (tgt := 160) hx hb dX9_bothMove_156 (by decide) ?_
                    exact hretl _ _ _ _ _ _ _ _ hh (⟨by unfold bmV; rw [show hpB a = true from h1, show hpB b = true from h2, h3, if_pos t3, if_pos c_150, ew.1]; rfl, ⟨v2, _, hR, fun k h1 h2 h3 h4 => (hg2 k h2 h3).trans (hg1 k h2 h3), hrw, hkp⟩⟩) (by decide) (by decide) dX9_bothMove_160 rfl
                · skip
                  have q3 : cutF (dF (nL a) (nL b)) < min (nL a) (nL b) := (ln_lt (by omega) (by omega)).mp c_124
                  have ew := wF2 q1 q2 q3
                  refine lv_iload hx hb dX9_bothMove_127 (lv_at hl 6 rfl) ?_
                  refine bz_ne (tgt := 138) hx hb dX9_bothMove_129 (by decide) (fun c_129 n_129 => ?_) (fun c_129 n_129 => ?_)
                  · skip
                    refine lv_lload hx hb dX9_bothMove_138 (lv_at hl 1 rfl) ?_
                    refine lv_aload_n hx hb dX9_bothMove_140 rfl (lv_at hl 3 rfl) ?_
                    refine lv_lload hx hb dX9_bothMove_141 (lv_at hl 0 rfl) ?_
                    refine cpV (As := [.long (lN (dF (nL a) (nL b)))]) (rest := [.long (lN (min (nL a) (nL b)))]) (k_X9_lesser l D cA _ m0 (dF (nL a) (nL b)) ⟨_, fb, f, hR, (hg2 0 (by decide) (by decide)).trans ((hg1 0 (by decide) (by decide)).trans (hv0)), hfb, hf⟩ (by omega)) ⟨hx, hb, hml, hown, hts⟩ (cwV 1 hts gX9_bothMove_X9_lesser rfl rfl rfl (by decide +kernel) ⟨by decide, by decide⟩) hK hM hR rfl rfl hl.1 rfl (Nat.le_of_ble_eq_true rfl) dX9_bothMove_143 ⟨by decide, by decide⟩ ?_
                    refine lv_lsub hx hb dX9_bothMove_146 ?_
                    refine tpl (x' := lN (howF (nL a) (nL b))) (by rw [ew.2]; exact lN_sub (by omega)) ?_
                    exact hretl _ _ _ _ _ _ _ _ hh (⟨by unfold bmV; rw [show hpB a = true from h1, show hpB b = true from h2, h3, if_pos t3, if_neg c_129], ⟨v2, _, hR, fun k h1 h2 h3 h4 => (hg2 k h2 h3).trans (hg1 k h2 h3), hrw, hkp⟩⟩) (by decide) (by decide) dX9_bothMove_147 rfl
                  · skip
                    refine lv_ldc2 hx hb hown cst_46 dX9_bothMove_132 ?_
                    refine lv_goto (tgt := 147) hx hb dX9_bothMove_135 (by decide) ?_
                    exact hretl _ _ _ _ _ _ _ _ hh (⟨by unfold bmV; rw [show hpB a = true from h1, show hpB b = true from h2, h3, if_pos t3, if_pos c_129, ew.1]; rfl, ⟨v2, _, hR, fun k h1 h2 h3 h4 => (hg2 k h2 h3).trans (hg1 k h2 h3), hrw, hkp⟩⟩) (by decide) (by decide) dX9_bothMove_147 rfl
              · exact absurd c_101 n_88
            · skip
              have hba : nL a < nL b := (ltL ea eb (by omega) (by omega)).mp c_88
              refine lv_lload_n hx hb dX9_bothMove_91 rfl (lv_at hl 2 rfl) ?_
              refine tpl (x' := lN (min (nL a) (nL b))) (by rw [Nat.min_eq_left (by omega)]; exact ea) ?_
              refine lv_goto (tgt := 96) hx hb dX9_bothMove_92 (by decide) ?_
              refine lv_lstore (lv' := [(8, .long (lN (min (nL a) (nL b)))), (6, .long (lN (prtF (nL a)))), (0, .ref m0), (1, .long a), (3, .long b), (5, .int w)]) hx hb dX9_bothMove_96 hl (by decide) rfl (fun ls hl => ?_)
              refine lv_lload_n hx hb dX9_bothMove_98 rfl (lv_at hl 3 rfl) ?_
              refine lv_lload_n hx hb dX9_bothMove_99 rfl (lv_at hl 4 rfl) ?_
              refine bl_ge (tgt := 110) hx hb dX9_bothMove_100 dX9_bothMove_101 (by decide) (fun c_101 n_101 => ?_) (fun c_101 n_101 => ?_)
              · exact absurd c_101 n_88
              · skip
                refine lv_lload_n hx hb dX9_bothMove_104 rfl (lv_at hl 4 rfl) ?_
                refine lv_lload_n hx hb dX9_bothMove_105 rfl (lv_at hl 3 rfl) ?_
                refine lv_lsub hx hb dX9_bothMove_106 ?_
                refine tpl (x' := lN (dF (nL a) (nL b))) (dfL1 ea eb (by omega)) ?_
                refine lv_goto (tgt := 113) hx hb dX9_bothMove_107 (by decide) ?_
                refine lv_lstore (lv' := [(10, .long (lN (dF (nL a) (nL b)))), (8, .long (lN (min (nL a) (nL b)))), (6, .long (lN (prtF (nL a)))), (0, .ref m0), (1, .long a), (3, .long b), (5, .int w)]) hx hb dX9_bothMove_113 hl (by decide) rfl (fun ls hl => ?_)
                refine lv_aload_n hx hb dX9_bothMove_115 rfl (lv_at hl 3 rfl) ?_
                refine lv_lload hx hb dX9_bothMove_116 (lv_at hl 0 rfl) ?_
                refine cpV (As := [.long (lN (dF (nL a) (nL b)))]) (rest := []) (k_X9_lesser l D cA _ m0 (dF (nL a) (nL b)) ⟨_, fb, f, hR, (hg2 0 (by decide) (by decide)).trans ((hg1 0 (by decide) (by decide)).trans (hv0)), hfb, hf⟩ (by omega)) ⟨hx, hb, hml, hown, hts⟩ (cwV 1 hts gX9_bothMove_X9_lesser rfl rfl rfl (by decide +kernel) ⟨by decide, by decide⟩) hK hM hR rfl rfl hl.1 rfl (Nat.le_of_ble_eq_true rfl) dX9_bothMove_118 ⟨by decide, by decide⟩ ?_
                refine lv_lload hx hb dX9_bothMove_121 (lv_at hl 1 rfl) ?_
                refine bl_ge (tgt := 148) hx hb dX9_bothMove_123 dX9_bothMove_124 (by decide) (fun c_124 n_124 => ?_) (fun c_124 n_124 => ?_)
                · skip
                  have q3 : ¬ cutF (dF (nL a) (nL b)) < min (nL a) (nL b) := fun z => n_124 ((ln_lt (by omega) (by omega)).mpr z)
                  have ew := wF3 q1 q2 q3
                  refine lv_iload hx hb dX9_bothMove_148 (lv_at hl 6 rfl) ?_
                  refine bz_ne (tgt := 159) hx hb dX9_bothMove_150 (by decide) (fun c_150 n_150 => ?_) (fun c_150 n_150 => ?_)
                  · skip
                    refine lv_lconst (v := 0) hx hb dX9_bothMove_159 (by decide) ?_
                    exact hretl _ _ _ _ _ _ _ _ hh (⟨by unfold bmV; rw [show hpB a = true from h1, show hpB b = true from h2, h3, if_pos t3, if_neg c_150, ew.2]; rfl, ⟨v2, _, hR, fun k h1 h2 h3 h4 => (hg2 k h2 h3).trans (hg1 k h2 h3), hrw, hkp⟩⟩) (by decide) (by decide) dX9_bothMove_160 rfl
                  · skip
                    refine lv_ldc2 hx hb hown cst_86 dX9_bothMove_153 ?_
                    refine lv_goto (tgt := 160) hx hb dX9_bothMove_156 (by decide) ?_
                    exact hretl _ _ _ _ _ _ _ _ hh (⟨by unfold bmV; rw [show hpB a = true from h1, show hpB b = true from h2, h3, if_pos t3, if_pos c_150, ew.1]; rfl, ⟨v2, _, hR, fun k h1 h2 h3 h4 => (hg2 k h2 h3).trans (hg1 k h2 h3), hrw, hkp⟩⟩) (by decide) (by decide) dX9_bothMove_160 rfl
                · skip
                  have q3 : cutF (dF (nL a) (nL b)) < min (nL a) (nL b) := (ln_lt (by omega) (by omega)).mp c_124
                  have ew := wF2 q1 q2 q3
                  refine lv_iload hx hb dX9_bothMove_127 (lv_at hl 6 rfl) ?_
                  refine bz_ne (tgt := 138) hx hb dX9_bothMove_129 (by decide) (fun c_129 n_129 => ?_) (fun c_129 n_129 => ?_)
                  · skip
                    refine lv_lload hx hb dX9_bothMove_138 (lv_at hl 1 rfl) ?_
                    refine lv_aload_n hx hb dX9_bothMove_140 rfl (lv_at hl 3 rfl) ?_
                    refine lv_lload hx hb dX9_bothMove_141 (lv_at hl 0 rfl) ?_
                    refine cpV (As := [.long (lN (dF (nL a) (nL b)))]) (rest := [.long (lN (min (nL a) (nL b)))]) (k_X9_lesser l D cA _ m0 (dF (nL a) (nL b)) ⟨_, fb, f, hR, (hg2 0 (by decide) (by decide)).trans ((hg1 0 (by decide) (by decide)).trans (hv0)), hfb, hf⟩ (by omega)) ⟨hx, hb, hml, hown, hts⟩ (cwV 1 hts gX9_bothMove_X9_lesser rfl rfl rfl (by decide +kernel) ⟨by decide, by decide⟩) hK hM hR rfl rfl hl.1 rfl (Nat.le_of_ble_eq_true rfl) dX9_bothMove_143 ⟨by decide, by decide⟩ ?_
                    refine lv_lsub hx hb dX9_bothMove_146 ?_
                    refine tpl (x' := lN (howF (nL a) (nL b))) (by rw [ew.2]; exact lN_sub (by omega)) ?_
                    exact hretl _ _ _ _ _ _ _ _ hh (⟨by unfold bmV; rw [show hpB a = true from h1, show hpB b = true from h2, h3, if_pos t3, if_neg c_129], ⟨v2, _, hR, fun k h1 h2 h3 h4 => (hg2 k h2 h3).trans (hg1 k h2 h3), hrw, hkp⟩⟩) (by decide) (by decide) dX9_bothMove_147 rfl
                  · skip
                    refine lv_ldc2 hx hb hown cst_46 dX9_bothMove_132 ?_
                    refine lv_goto (tgt := 147) hx hb dX9_bothMove_135 (by decide) ?_
                    exact hretl _ _ _ _ _ _ _ _ hh (⟨by unfold bmV; rw [show hpB a = true from h1, show hpB b = true from h2, h3, if_pos t3, if_pos c_129, ew.1]; rfl, ⟨v2, _, hR, fun k h1 h2 h3 h4 => (hg2 k h2 h3).trans (hg1 k h2 h3), hrw, hkp⟩⟩) (by decide) (by decide) dX9_bothMove_147 rfl
          · skip
            have q2 : prtF (nL a) < nL b := (ltL rfl eb (by omega) (by omega)).mp c_68
            have ew := wF1 q1 q2
            refine lv_iload hx hb dX9_bothMove_71 (lv_at hl 4 rfl) ?_
            refine bz_ne (tgt := 80) hx hb dX9_bothMove_73 (by decide) (fun c_73 n_73 => ?_) (fun c_73 n_73 => ?_)
            · skip
              refine lv_lload_n hx hb dX9_bothMove_80 rfl (lv_at hl 3 rfl) ?_
              refine lv_lload hx hb dX9_bothMove_81 (lv_at hl 0 rfl) ?_
              refine lv_lsub hx hb dX9_bothMove_83 ?_
              refine tpl (x' := lN (howF (nL a) (nL b))) (by rw [ew.2]; exact subL eb rfl (by omega)) ?_
              exact hretl _ _ _ _ _ _ _ _ hh (⟨by unfold bmV; rw [show hpB a = true from h1, show hpB b = true from h2, h3, if_pos t3, if_neg c_73], ⟨v2, _, hR, fun k h1 h2 h3 h4 => (hg2 k h2 h3).trans (hg1 k h2 h3), hrw, hkp⟩⟩) (by decide) (by decide) dX9_bothMove_84 rfl
            · skip
              refine lv_lconst (v := 1) hx hb dX9_bothMove_76 (by decide) ?_
              refine lv_goto (tgt := 84) hx hb dX9_bothMove_77 (by decide) ?_
              exact hretl _ _ _ _ _ _ _ _ hh (⟨by unfold bmV; rw [show hpB a = true from h1, show hpB b = true from h2, h3, if_pos t3, if_pos c_73, ew.1]; rfl, ⟨v2, _, hR, fun k h1 h2 h3 h4 => (hg2 k h2 h3).trans (hg1 k h2 h3), hrw, hkp⟩⟩) (by decide) (by decide) dX9_bothMove_84 rfl
        · skip
          have q1 : prtF (nL b) < nL a := (ltL rfl ea (by omega) (by omega)).mp c_40
          have ew := wF0 q1
          refine lv_iload hx hb dX9_bothMove_43 (lv_at hl 4 rfl) ?_
          refine bz_ne (tgt := 52) hx hb dX9_bothMove_45 (by decide) (fun c_45 n_45 => ?_) (fun c_45 n_45 => ?_)
          · skip
            refine lv_lload_n hx hb dX9_bothMove_52 rfl (lv_at hl 2 rfl) ?_
            refine lv_lload hx hb dX9_bothMove_53 (lv_at hl 0 rfl) ?_
            refine lv_lsub hx hb dX9_bothMove_55 ?_
            refine tpl (x' := lN (howF (nL a) (nL b))) (by rw [ew.2]; exact subL ea rfl (by omega)) ?_
            exact hretl _ _ _ _ _ _ _ _ hh (⟨by unfold bmV; rw [show hpB a = true from h1, show hpB b = true from h2, h3, if_pos t3, if_neg c_45], ⟨v1, _, hR, fun k h1 h2 h3 h4 => hg1 k h2 h3, hrw, hkp⟩⟩) (by decide) (by decide) dX9_bothMove_56 rfl
          · skip
            refine lv_lconst (v := 0) hx hb dX9_bothMove_48 (by decide) ?_
            refine lv_goto (tgt := 56) hx hb dX9_bothMove_49 (by decide) ?_
            exact hretl _ _ _ _ _ _ _ _ hh (⟨by unfold bmV; rw [show hpB a = true from h1, show hpB b = true from h2, h3, if_pos t3, if_pos c_45, ew.1]; rfl, ⟨v1, _, hR, fun k h1 h2 h3 h4 => hg1 k h2 h3, hrw, hkp⟩⟩) (by decide) (by decide) dX9_bothMove_56 rfl
      · skip
        have h3 := bI_eq0 c_22
        refine lv_ldc2 hx hb hown cst_62 dX9_bothMove_25 ?_
        exact hretl _ _ _ _ _ _ _ _ hh (⟨by simp [bmV, h1, h2, h3], ⟨v, _, hR, fun _ _ _ _ _ => rfl, hrw, hkp⟩⟩) (by decide) (by decide) dX9_bothMove_28 rfl
set_option maxHeartbeats 1000000 in
set_option maxRecDepth 100000 in
theorem k_X9_row (l : Launch) (D : va_G) (cA : Nat → ClassId) (M : mp) (m0 : Nat) (v : Nat → Value) (ra : Nat) (f0 : Nat → Int64) (x i : Int32) (hR : M m0 = some (.inr (9, rL v))) (hv1 : v 1 = .ref ra) (hrw : M ra = some (.inl (cA 0, 500, .inr (.inl f0))))  : MC l D cA yX9_row wsX9_row 2 45 0 0 [.ref m0, .int x, .int i] M (fun r M' => r = some (.long (roV x i)) ∧ scr cA M M' m0 ra v) := by
  refine MC.of (cc := cX9_row) (maxL := 3) (ret := (some .long)) (by decide) rfl (Nat.le_of_ble_eq_true rfl) ?_
  intro p e s m args below meth c Q ls B hh hl hretv hreti hretz hretl hreta
  obtain ⟨hx, hb, hown, hts, hml, hK, hin⟩ := B
  have hM := hh.1
  have hM_0 := hh.1
  have hkp : kpL M M [m0, ra] := kpL.rf M _
  have hown : s.vm.findClass RX9 = some m.cls := hown
  have hl : lv_has ls 3 [(0, .ref m0), (1, .int x), (2, .int i)] := hl
  have cst_62 := hts (.constantLong RX9 62 (-2)) (by decide +kernel)
  have in_X9 : ∀ w ∈ wsX90, w ∈ wsX9_row := by decide +kernel
  have fl_90 := hts (.fieldLink RX9 90 "GoldHeapsModel" "rowMany" "I") (by decide +kernel)
  have cst_86 := hts (.constantLong RX9 86 (-1)) (by decide +kernel)
  have fl_13 := hts (.fieldLink RX9 13 "GoldHeapsModel" "row" "[J") (by decide +kernel)
  refine lv_iload_n hx hb dX9_row_0 rfl (lv_at hl 1 rfl) ?_
  refine cpS (As := [.int x]) (rest := []) (k_X9_isBy l D cA _ x) ⟨hx, hb, hml, hown, hts⟩ (va_cwS 1 hts gX9_row_X9_isBy rfl rfl rfl (by decide +kernel) ⟨by decide, by decide⟩) hK hM rfl hl.1 rfl (Nat.le_of_ble_eq_true rfl) dX9_row_1 ⟨by decide, by decide⟩ ?_
  refine bz_eq (tgt := 11) hx hb dX9_row_4 (by decide) (fun c_4 n_4 => ?_) (fun c_4 n_4 => ?_)
  · skip
    have h1 := bI_eq0 c_4
    refine lv_ldc2 hx hb hown cst_62 dX9_row_11 ?_
    exact hretl _ _ _ _ _ _ _ _ hh (⟨by simp [roV, h1], ⟨v, _, hR, fun _ _ _ _ _ => rfl, hrw, hkp⟩⟩) (by decide) (by decide) dX9_row_14 rfl
  · skip
    have h1 := bI_ne0 c_4
    refine lv_iload_n hx hb dX9_row_7 rfl (lv_at hl 2 rfl) ?_
    refine bz_ge (tgt := 15) hx hb dX9_row_8 (by decide) (fun c_8 n_8 => ?_) (fun c_8 n_8 => ?_)
    · skip
      obtain ⟨j, hj, ej⟩ := nI_of (x := i) n_8
      obtain ⟨ex, x1, x9⟩ := by_of h1
      obtain ⟨hz1, hz2, hz3, hz4, hz5⟩ := row_0 (nB x) (by omega) x1
      refine lv_aload_n hx hb dX9_row_15 rfl (lv_at hl 0 rfl) ?_
      refine lv_iload_n hx hb dX9_row_16 rfl (lv_at hl 1 rfl) ?_
      refine cmV (As := [.int x]) (rest := []) (by have h9 := k_X9_findRow l D cA _ m0 v ra f0 (nB x) hR hv1 hrw x1 x9; rw [← ex] at h9; exact h9) ⟨hx, hb, hml, hown, hts⟩ (cwV 1 hts gX9_row_X9_findRow rfl rfl rfl (by decide +kernel) ⟨by decide, by decide⟩) hK hh hR rfl rfl hl.1 rfl (Nat.le_of_ble_eq_true rfl) dX9_row_17 ⟨by decide, by decide⟩ (fun v9 M1 H1 locs1 hpost hh hz9 hk9 hn9 => ?_)
      obtain ⟨rfl, ⟨v1, f1, hR1, hv2, hvo, hrw1, hf1⟩, hkc⟩ := hpost
      have hR : M1 m0 = some (.inr (9, rL v1)) := hR1
      have hrw : M1 ra = some (.inl (cA 0, 500, .inr (.inl f1))) := hrw1
      have hkp := hkp.call hkc (by simp)
      have hM := hh.1
      refine W.eq (g2 := F0 m 20 ls []) rfl ?_
      refine lv_iload_n hx hb dX9_row_20 rfl (lv_at hl 2 rfl) ?_
      refine lv_aload_n hx hb dX9_row_21 rfl (lv_at hl 0 rfl) ?_
      refine m_get (ci := 9) (C := RX9) (T := TX9) (N := 18) (v := v1 2) hx hb hts in_X9 hown hK hM hR rfl 2 (by decide) fl_90 (fun _ h => h) rfl dX9_row_22 ?_
      refine tpv (hv2) ?_
      refine bi_ge (tgt := 37) hx hb dX9_row_25 (by decide) (fun c_25 n_25 => ?_) (fun c_25 n_25 => ?_)
      · skip
        have hjl : rsz (nB x) - 1 ≤ j := (nI_leI (by omega) hj).mp (by rw [← ej]; exact c_25)
        refine lv_ldc2 hx hb hown cst_86 dX9_row_37 ?_
        exact hretl _ _ _ _ _ _ _ _ hh (⟨by unfold roV; rw [show byB x = true from h1, decide_eq_true c_8, if_pos t2, if_neg (by rw [ej, nI_clamp hj]; omega)], ⟨v1, _, hR, fun k h1 h2 h3 h4 => hvo k h1, hrw, hkp⟩⟩) (by decide) (by decide) dX9_row_40 rfl
      · skip
        have hjl : j < rsz (nB x) - 1 := (nI_ltI hj (by omega)).mp (by rw [← ej]; exact c_25)
        refine lv_aload_n hx hb dX9_row_28 rfl (lv_at hl 0 rfl) ?_
        refine m_get (ci := 9) (C := RX9) (T := TX9) (N := 18) (v := v1 1) hx hb hts in_X9 hown hK hM hR rfl 1 (by decide) fl_13 (fun _ h => h) rfl dX9_row_29 ?_
        refine tpv ((hvo 1 (by decide)).trans hv1) ?_
        refine lv_iload_n hx hb dX9_row_32 rfl (lv_at hl 2 rfl) ?_
        refine m_laldN (k := j) hx hb hK hM hrw (ej) (by omega) (by decide) dX9_row_33 ?_
        refine tpl (x' := lN (rowN (nB x) j)) (hf1 j hjl) ?_
        refine lv_goto (tgt := 40) hx hb dX9_row_34 (by decide) ?_
        exact hretl _ _ _ _ _ _ _ _ hh (⟨by unfold roV; rw [show byB x = true from h1, decide_eq_true c_8, if_pos t2, if_pos (by rw [ej, nI_clamp hj]; exact hjl), ej, nI_clamp hj], ⟨v1, _, hR, fun k h1 h2 h3 h4 => hvo k h1, hrw, hkp⟩⟩) (by decide) (by decide) dX9_row_40 rfl
    · skip
      refine lv_ldc2 hx hb hown cst_62 dX9_row_11 ?_
      exact hretl _ _ _ _ _ _ _ _ hh (⟨by simp [roV, h1, n_8], ⟨v, _, hR, fun _ _ _ _ _ => rfl, hrw, hkp⟩⟩) (by decide) (by decide) dX9_row_14 rfl
set_option maxHeartbeats 1000000 in
set_option maxRecDepth 100000 in
theorem k_X9_digits (l : Launch) (D : va_G) (cA : Nat → ClassId) (M : mp) (m0 : Nat) (v : Nat → Value) (ra : Nat) (f0 : Nat → Int64) (x : Int32) (n : Int64) (hR : M m0 = some (.inr (9, rL v))) (hv1 : v 1 = .ref ra) (hrw : M ra = some (.inl (cA 0, 500, .inr (.inl f0))))  : MC l D cA yX9_digits wsX9_digits 2 52 0 0 [.ref m0, .int x, .long n] M (fun r M' => r = some (.int (diV x n)) ∧ scr cA M M' m0 ra v) := by
  refine MC.of (cc := cX9_digits) (maxL := 6) (ret := (some .int)) (by decide) rfl (Nat.le_of_ble_eq_true rfl) ?_
  intro p e s m args below meth c Q ls B hh hl hretv hreti hretz hretl hreta
  obtain ⟨hx, hb, hown, hts, hml, hK, hin⟩ := B
  have hM := hh.1
  have hM_0 := hh.1
  have hkp : kpL M M [m0, ra] := kpL.rf M _
  have hown : s.vm.findClass RX9 = some m.cls := hown
  have hl : lv_has ls 6 [(0, .ref m0), (1, .int x), (2, .long n)] := hl
  have in_X9 : ∀ w ∈ wsX90, w ∈ wsX9_digits := by decide +kernel
  have fl_103 := hts (.fieldLink RX9 103 "GoldHeapsModel" "digitMany" "I") (by decide +kernel)
  refine lv_iload_n hx hb dX9_digits_0 rfl (lv_at hl 1 rfl) ?_
  refine cpS (As := [.int x]) (rest := []) (k_X9_isBy l D cA _ x) ⟨hx, hb, hml, hown, hts⟩ (va_cwS 1 hts gX9_digits_X9_isBy rfl rfl rfl (by decide +kernel) ⟨by decide, by decide⟩) hK hM rfl hl.1 rfl (Nat.le_of_ble_eq_true rfl) dX9_digits_1 ⟨by decide, by decide⟩ ?_
  refine bz_eq (tgt := 14) hx hb dX9_digits_4 (by decide) (fun c_4 n_4 => ?_) (fun c_4 n_4 => ?_)
  · skip
    have h1 := bI_eq0 c_4
    refine lv_bipush (v := (-2)) hx hb dX9_digits_14 (by decide) ?_
    exact hreti _ _ _ _ _ _ _ _ hh (⟨by simp [diV, h1], ⟨v, _, hR, fun _ _ _ _ _ => rfl, hrw, hkp⟩⟩) (by decide) (by decide) dX9_digits_16 rfl
  · skip
    have h1 := bI_ne0 c_4
    refine lv_lload_n hx hb dX9_digits_7 rfl (lv_at hl 2 rfl) ?_
    refine cpS (As := [.long n]) (rest := []) (k_X9_isHeap l D cA _ n) ⟨hx, hb, hml, hown, hts⟩ (va_cwS 1 hts gX9_digits_X9_isHeap rfl rfl rfl (by decide +kernel) ⟨by decide, by decide⟩) hK hM rfl hl.1 rfl (Nat.le_of_ble_eq_true rfl) dX9_digits_8 ⟨by decide, by decide⟩ ?_
    refine bz_ne (tgt := 17) hx hb dX9_digits_11 (by decide) (fun c_11 n_11 => ?_) (fun c_11 n_11 => ?_)
    · skip
      have h2 := bI_ne0 c_11
      obtain ⟨ex, x1, x9⟩ := by_of h1
      obtain ⟨hz1, hz2, hz3, hz4, hz5⟩ := row_0 (nB x) (by omega) x1
      obtain ⟨en, ln⟩ := hp_heap h2
      refine lv_aload_n hx hb dX9_digits_17 rfl (lv_at hl 0 rfl) ?_
      refine lv_iload_n hx hb dX9_digits_18 rfl (lv_at hl 1 rfl) ?_
      refine lv_lload_n hx hb dX9_digits_19 rfl (lv_at hl 2 rfl) ?_
      refine cmV (As := [.int x, .long n]) (rest := []) (by have h9 := k_X9_lastOf l D cA _ m0 v ra f0 (nB x) (nL n) hR (hv1) hrw x1 x9 ln; rw [← ex, ← en] at h9; exact h9) ⟨hx, hb, hml, hown, hts⟩ (cwV 2 hts gX9_digits_X9_lastOf rfl rfl rfl (by decide +kernel) ⟨by decide, by decide⟩) hK hh hR rfl rfl hl.1 rfl (Nat.le_of_ble_eq_true rfl) dX9_digits_20 ⟨by decide, by decide⟩ (fun v9 M1 H1 locs1 hpost hh hz9 hk9 hn9 => ?_)
      obtain ⟨rfl, ⟨v1, f1, hR1, hv17, hvo, hrw1⟩, hkc⟩ := hpost
      have hR : M1 m0 = some (.inr (9, rL v1)) := hR1
      have hrw : M1 ra = some (.inl (cA 0, 500, .inr (.inl f1))) := hrw1
      have hkp := hkp.call hkc (by simp)
      have hM := hh.1
      refine W.eq (g2 := F0 m 23 ls [.long (lN (enD (nB x) (nL n)))]) rfl ?_
      refine lv_lstore (lv' := [(4, .long (lN (enD (nB x) (nL n)))), (0, .ref m0), (1, .int x), (2, .long n)]) hx hb dX9_digits_23 hl (by decide) rfl (fun ls hl => ?_)
      refine lv_aload_n hx hb dX9_digits_25 rfl (lv_at hl 1 rfl) ?_
      refine m_get (ci := 9) (C := RX9) (T := TX9) (N := 18) (v := v1 17) hx hb hts in_X9 hown hK hM hR rfl 17 (by decide) fl_103 (fun _ h => h) rfl dX9_digits_26 ?_
      refine tpv (hv17) ?_
      exact hreti _ _ _ _ _ _ _ _ hh (⟨by unfold diV; rw [show byB x = true from h1, show hpB n = true from h2, if_pos t2]; rfl, ⟨v1, _, hR, fun k h1 h2 h3 h4 => hvo k h1 h4, hrw, hkp⟩⟩) (by decide) (by decide) dX9_digits_29 rfl
    · skip
      have h2 := bI_eq0 c_11
      refine lv_bipush (v := (-2)) hx hb dX9_digits_14 (by decide) ?_
      exact hreti _ _ _ _ _ _ _ _ hh (⟨by simp [diV, h1, h2], ⟨v, _, hR, fun _ _ _ _ _ => rfl, hrw, hkp⟩⟩) (by decide) (by decide) dX9_digits_16 rfl
set_option maxHeartbeats 1000000 in
set_option maxRecDepth 100000 in
theorem k_X9_last (l : Launch) (D : va_G) (cA : Nat → ClassId) (M : mp) (m0 : Nat) (v : Nat → Value) (ra : Nat) (f0 : Nat → Int64) (x : Int32) (n : Int64) (hR : M m0 = some (.inr (9, rL v))) (hv1 : v 1 = .ref ra) (hrw : M ra = some (.inl (cA 0, 500, .inr (.inl f0))))  : MC l D cA yX9_last wsX9_last 2 52 0 0 [.ref m0, .int x, .long n] M (fun r M' => r = some (.long (laV x n)) ∧ scr cA M M' m0 ra v) := by
  refine MC.of (cc := cX9_last) (maxL := 4) (ret := (some .long)) (by decide) rfl (Nat.le_of_ble_eq_true rfl) ?_
  intro p e s m args below meth c Q ls B hh hl hretv hreti hretz hretl hreta
  obtain ⟨hx, hb, hown, hts, hml, hK, hin⟩ := B
  have hM := hh.1
  have hM_0 := hh.1
  have hkp : kpL M M [m0, ra] := kpL.rf M _
  have hown : s.vm.findClass RX9 = some m.cls := hown
  have hl : lv_has ls 4 [(0, .ref m0), (1, .int x), (2, .long n)] := hl
  have cst_62 := hts (.constantLong RX9 62 (-2)) (by decide +kernel)
  have cst_48 := hts (.constantLong RX9 48 (1000000000000)) (by decide +kernel)
  refine lv_iload_n hx hb dX9_last_0 rfl (lv_at hl 1 rfl) ?_
  refine cpS (As := [.int x]) (rest := []) (k_X9_isBy l D cA _ x) ⟨hx, hb, hml, hown, hts⟩ (va_cwS 1 hts gX9_last_X9_isBy rfl rfl rfl (by decide +kernel) ⟨by decide, by decide⟩) hK hM rfl hl.1 rfl (Nat.le_of_ble_eq_true rfl) dX9_last_1 ⟨by decide, by decide⟩ ?_
  refine bz_eq (tgt := 27) hx hb dX9_last_4 (by decide) (fun c_4 n_4 => ?_) (fun c_4 n_4 => ?_)
  · skip
    have h1 := bI_eq0 c_4
    refine lv_ldc2 hx hb hown cst_62 dX9_last_27 ?_
    exact hretl _ _ _ _ _ _ _ _ hh (⟨by simp [laV, h1], ⟨v, _, hR, fun _ _ _ _ _ => rfl, hrw, hkp⟩⟩) (by decide) (by decide) dX9_last_30 rfl
  · skip
    have h1 := bI_ne0 c_4
    refine lv_lload_n hx hb dX9_last_7 rfl (lv_at hl 2 rfl) ?_
    refine lv_lconst (v := 1) hx hb dX9_last_8 (by decide) ?_
    refine lv_ldc2 hx hb hown cst_48 dX9_last_9 ?_
    refine cpS (As := [.long n, .long 1, .long 1000000000000]) (rest := []) (k_X9_in l D cA _ (n) 1 1000000000000) ⟨hx, hb, hml, hown, hts⟩ (va_cwS 3 hts gX9_last_X9_in rfl rfl rfl (by decide +kernel) ⟨by decide, by decide⟩) hK hM rfl hl.1 rfl (Nat.le_of_ble_eq_true rfl) dX9_last_12 ⟨by decide, by decide⟩ ?_
    refine bz_eq (tgt := 27) hx hb dX9_last_15 (by decide) (fun c_15 n_15 => ?_) (fun c_15 n_15 => ?_)
    · skip
      have h2 := bI_eq0 c_15
      refine lv_ldc2 hx hb hown cst_62 dX9_last_27 ?_
      exact hretl _ _ _ _ _ _ _ _ hh (⟨by simp [laV, h1, h2], ⟨v, _, hR, fun _ _ _ _ _ => rfl, hrw, hkp⟩⟩) (by decide) (by decide) dX9_last_30 rfl
    · skip
      have h2 := bI_ne0 c_15
      obtain ⟨ex, x1, x9⟩ := by_of h1
      obtain ⟨hz1, hz2, hz3, hz4, hz5⟩ := row_0 (nB x) (by omega) x1
      obtain ⟨en, ln, -⟩ := hp_1 h2
      refine lv_aload_n hx hb dX9_last_18 rfl (lv_at hl 0 rfl) ?_
      refine lv_iload_n hx hb dX9_last_19 rfl (lv_at hl 1 rfl) ?_
      refine lv_lload_n hx hb dX9_last_20 rfl (lv_at hl 2 rfl) ?_
      refine cmV (As := [.int x, .long n]) (rest := []) (by have h9 := k_X9_lastOf l D cA _ m0 v ra f0 (nB x) (nL n) hR (hv1) hrw x1 x9 ln; rw [← ex, ← en] at h9; exact h9) ⟨hx, hb, hml, hown, hts⟩ (cwV 2 hts gX9_last_X9_lastOf rfl rfl rfl (by decide +kernel) ⟨by decide, by decide⟩) hK hh hR rfl rfl hl.1 rfl (Nat.le_of_ble_eq_true rfl) dX9_last_21 ⟨by decide, by decide⟩ (fun v9 M1 H1 locs1 hpost hh hz9 hk9 hn9 => ?_)
      obtain ⟨rfl, ⟨v1, f1, hR1, hv17, hvo, hrw1⟩, hkc⟩ := hpost
      have hR : M1 m0 = some (.inr (9, rL v1)) := hR1
      have hrw : M1 ra = some (.inl (cA 0, 500, .inr (.inl f1))) := hrw1
      have hkp := hkp.call hkc (by simp)
      have hM := hh.1
      refine W.eq (g2 := F0 m 24 ls [.long (lN (enD (nB x) (nL n)))]) rfl ?_
      refine lv_goto (tgt := 30) hx hb dX9_last_24 (by decide) ?_
      exact hretl _ _ _ _ _ _ _ _ hh (⟨by unfold laV; rw [show byB x = true from h1, h2, if_pos t2], ⟨v1, _, hR, fun k h1 h2 h3 h4 => hvo k h1 h4, hrw, hkp⟩⟩) (by decide) (by decide) dX9_last_30 rfl
set_option maxHeartbeats 1000000 in
set_option maxRecDepth 100000 in
theorem k_X9_isTimes (l : Launch) (D : va_G) (cA : Nat → ClassId) (M : mp) (m0 : Nat) (v : Nat → Value) (ra : Nat) (f0 : Nat → Int64) (t : Nat) (n b : Nat) (hR : M m0 = some (.inr (9, rL v))) (hv1 : v 1 = .ref ra) (hrw : M ra = some (.inl (cA 0, 500, .inr (.inl f0)))) (ht1 : 1 ≤ t) (ht9 : t ≤ 9) (hn : n ≤ 1000000000000) (hb0 : b ≤ 1000000000000)  : MC l D cA yX9_isTimes wsX9_isTimes 2 52 0 0 [.ref m0, .int (nI t), .long (lN n), .long (lN b)] M (fun r M' => r = some (.int (bI (tiF t n b))) ∧ scr cA M M' m0 ra v) := by
  refine MC.of (cc := cX9_isTimes) (maxL := 6) (ret := (some .boolean)) (by decide) rfl (Nat.le_of_ble_eq_true rfl) ?_
  intro p e s m args below meth c Q ls B hh hl hretv hreti hretz hretl hreta
  obtain ⟨hx, hb, hown, hts, hml, hK, hin⟩ := B
  have hM := hh.1
  have hM_0 := hh.1
  have hkp : kpL M M [m0, ra] := kpL.rf M _
  have hown : s.vm.findClass RX9 = some m.cls := hown
  have hl : lv_has ls 6 [(0, .ref m0), (1, .int (nI t)), (2, .long (lN n)), (4, .long (lN b))] := hl
  have hle := enD_le t n
  refine lv_lload_n hx hb dX9_isTimes_0 rfl (lv_at hl 2 rfl) ?_
  refine lv_lconst (v := 0) hx hb dX9_isTimes_1 (by decide) ?_
  refine bl_le (tgt := 22) hx hb dX9_isTimes_2 dX9_isTimes_3 (by decide) (fun c_3 n_3 => ?_) (fun c_3 n_3 => ?_)
  · skip
    have h0 : ¬ 0 < n := fun z => n_3 (by rw [l_0]; exact (ln_lt (by decide) (by omega)).mpr z)
    refine lv_iconst (v := 0) hx hb dX9_isTimes_22 (by decide) ?_
    exact hretz _ _ _ _ _ _ _ _ (tiF t n b) hh (by unfold tiF; rw [decide_eq_false h0]; rfl) (⟨rfl, ⟨v, _, hR, fun _ _ _ _ _ => rfl, hrw, hkp⟩⟩) (by decide) (by decide) dX9_isTimes_23 rfl
  · skip
    have h0 : 0 < n := (ln_lt (by decide) (by omega)).mp (by rw [← l_0]; exact c_3)
    refine lv_lload hx hb dX9_isTimes_6 (lv_at hl 3 rfl) ?_
    refine lv_aload_n hx hb dX9_isTimes_8 rfl (lv_at hl 0 rfl) ?_
    refine lv_iload_n hx hb dX9_isTimes_9 rfl (lv_at hl 1 rfl) ?_
    refine lv_lload_n hx hb dX9_isTimes_10 rfl (lv_at hl 2 rfl) ?_
    refine cmV (As := [.int (nI t), .long (lN n)]) (rest := [.long (lN b)]) (k_X9_lastOf l D cA _ m0 v ra f0 t n hR hv1 hrw ht1 ht9 hn) ⟨hx, hb, hml, hown, hts⟩ (cwV 2 hts gX9_isTimes_X9_lastOf rfl rfl rfl (by decide +kernel) ⟨by decide, by decide⟩) hK hh hR rfl rfl hl.1 rfl (Nat.le_of_ble_eq_true rfl) dX9_isTimes_11 ⟨by decide, by decide⟩ (fun v9 M1 H1 locs1 hpost hh hz9 hk9 hn9 => ?_)
    obtain ⟨rfl, ⟨v1, f1, hR1, hv17, hvo, hrw1⟩, hkc⟩ := hpost
    have hR : M1 m0 = some (.inr (9, rL v1)) := hR1
    have hrw : M1 ra = some (.inl (cA 0, 500, .inr (.inl f1))) := hrw1
    have hkp := hkp.call hkc (by simp)
    have hM := hh.1
    refine W.eq (g2 := F0 m 14 ls [.long (lN (enD t n)), .long (lN b)]) rfl ?_
    refine bl_lt (tgt := 22) hx hb dX9_isTimes_14 dX9_isTimes_15 (by decide) (fun c_15 n_15 => ?_) (fun c_15 n_15 => ?_)
    · skip
      have h5 : ¬ enD t n ≤ b := fun z => n_15 ((ln_le (by omega) (by omega)).mpr z)
      refine lv_iconst (v := 0) hx hb dX9_isTimes_22 (by decide) ?_
      exact hretz _ _ _ _ _ _ _ _ (tiF t n b) hh (by unfold tiF; rw [decide_eq_true h0, decide_eq_false h5]; rfl) (⟨rfl, ⟨v1, _, hR, fun k h1 h2 h3 h4 => hvo k h1 h4, hrw, hkp⟩⟩) (by decide) (by decide) dX9_isTimes_23 rfl
    · skip
      have h5 : enD t n ≤ b := (ln_le (by omega) (by omega)).mp c_15
      refine lv_iconst (v := 1) hx hb dX9_isTimes_18 (by decide) ?_
      refine lv_goto (tgt := 23) hx hb dX9_isTimes_19 (by decide) ?_
      exact hretz _ _ _ _ _ _ _ _ (tiF t n b) hh (by unfold tiF; rw [decide_eq_true h0, decide_eq_true h5]; rfl) (⟨rfl, ⟨v1, _, hR, fun k h1 h2 h3 h4 => hvo k h1 h4, hrw, hkp⟩⟩) (by decide) (by decide) dX9_isTimes_23 rfl
set_option maxHeartbeats 1000000 in
set_option maxRecDepth 100000 in
theorem k_X9_times (l : Launch) (D : va_G) (cA : Nat → ClassId) (M : mp) (m0 : Nat) (v : Nat → Value) (ra : Nat) (f0 : Nat → Int64) (x : Int32) (n b : Int64) (hR : M m0 = some (.inr (9, rL v))) (hv1 : v 1 = .ref ra) (hrw : M ra = some (.inl (cA 0, 500, .inr (.inl f0))))  : MC l D cA yX9_times wsX9_times 3 77 0 0 [.ref m0, .int x, .long n, .long b] M (fun r M' => r = some (.int (tiV x n b)) ∧ scr cA M M' m0 ra v) := by
  refine MC.of (cc := cX9_times) (maxL := 6) (ret := (some .int)) (by decide) rfl (Nat.le_of_ble_eq_true rfl) ?_
  intro p e s m args below meth c Q ls B hh hl hretv hreti hretz hretl hreta
  obtain ⟨hx, hb, hown, hts, hml, hK, hin⟩ := B
  have hM := hh.1
  have hM_0 := hh.1
  have hkp : kpL M M [m0, ra] := kpL.rf M _
  have hown : s.vm.findClass RX9 = some m.cls := hown
  have hl : lv_has ls 6 [(0, .ref m0), (1, .int x), (2, .long n), (4, .long b)] := hl
  refine lv_iload_n hx hb dX9_times_0 rfl (lv_at hl 1 rfl) ?_
  refine cpS (As := [.int x]) (rest := []) (k_X9_isBy l D cA _ x) ⟨hx, hb, hml, hown, hts⟩ (va_cwS 1 hts gX9_times_X9_isBy rfl rfl rfl (by decide +kernel) ⟨by decide, by decide⟩) hK hM rfl hl.1 rfl (Nat.le_of_ble_eq_true rfl) dX9_times_1 ⟨by decide, by decide⟩ ?_
  refine bz_eq (tgt := 22) hx hb dX9_times_4 (by decide) (fun c_4 n_4 => ?_) (fun c_4 n_4 => ?_)
  · skip
    have h1 := bI_eq0 c_4
    refine lv_bipush (v := (-2)) hx hb dX9_times_22 (by decide) ?_
    refine lv_goto (tgt := 43) hx hb dX9_times_24 (by decide) ?_
    exact hreti _ _ _ _ _ _ _ _ hh (⟨by simp [tiV, h1], ⟨v, _, hR, fun _ _ _ _ _ => rfl, hrw, hkp⟩⟩) (by decide) (by decide) dX9_times_43 rfl
  · skip
    have h1 := bI_ne0 c_4
    refine lv_lload_n hx hb dX9_times_7 rfl (lv_at hl 2 rfl) ?_
    refine cpS (As := [.long n]) (rest := []) (k_X9_isHeap l D cA _ n) ⟨hx, hb, hml, hown, hts⟩ (va_cwS 1 hts gX9_times_X9_isHeap rfl rfl rfl (by decide +kernel) ⟨by decide, by decide⟩) hK hM rfl hl.1 rfl (Nat.le_of_ble_eq_true rfl) dX9_times_8 ⟨by decide, by decide⟩ ?_
    refine bz_eq (tgt := 22) hx hb dX9_times_11 (by decide) (fun c_11 n_11 => ?_) (fun c_11 n_11 => ?_)
    · skip
      have h2 := bI_eq0 c_11
      refine lv_bipush (v := (-2)) hx hb dX9_times_22 (by decide) ?_
      refine lv_goto (tgt := 43) hx hb dX9_times_24 (by decide) ?_
      exact hreti _ _ _ _ _ _ _ _ hh (⟨by simp [tiV, h1, h2], ⟨v, _, hR, fun _ _ _ _ _ => rfl, hrw, hkp⟩⟩) (by decide) (by decide) dX9_times_43 rfl
    · skip
      have h2 := bI_ne0 c_11
      refine lv_lload hx hb dX9_times_14 (lv_at hl 3 rfl) ?_
      refine cpS (As := [.long b]) (rest := []) (k_X9_isHeap l D cA _ b) ⟨hx, hb, hml, hown, hts⟩ (va_cwS 1 hts gX9_times_X9_isHeap rfl rfl rfl (by decide +kernel) ⟨by decide, by decide⟩) hK hM rfl hl.1 rfl (Nat.le_of_ble_eq_true rfl) dX9_times_16 ⟨by decide, by decide⟩ ?_
      refine bz_ne (tgt := 27) hx hb dX9_times_19 (by decide) (fun c_19 n_19 => ?_) (fun c_19 n_19 => ?_)
      · skip
        have h3 := bI_ne0 c_19
        obtain ⟨ex, x1, x9⟩ := by_of h1
        obtain ⟨hz1, hz2, hz3, hz4, hz5⟩ := row_0 (nB x) (by omega) x1
        obtain ⟨en, ln⟩ := hp_heap h2
        obtain ⟨eb, lb⟩ := hp_heap h3
        refine lv_aload_n hx hb dX9_times_27 rfl (lv_at hl 0 rfl) ?_
        refine lv_iload_n hx hb dX9_times_28 rfl (lv_at hl 1 rfl) ?_
        refine lv_lload_n hx hb dX9_times_29 rfl (lv_at hl 2 rfl) ?_
        refine lv_lload hx hb dX9_times_30 (lv_at hl 3 rfl) ?_
        refine cmV (As := [.int x, .long n, .long b]) (rest := []) (by have h9 := k_X9_isTimes l D cA _ m0 v ra f0 (nB x) (nL n) (nL b) hR hv1 hrw x1 x9 ln lb; rw [← ex, ← en, ← eb] at h9; exact h9) ⟨hx, hb, hml, hown, hts⟩ (cwV 3 hts gX9_times_X9_isTimes rfl rfl rfl (by decide +kernel) ⟨by decide, by decide⟩) hK hh hR rfl rfl hl.1 rfl (Nat.le_of_ble_eq_true rfl) dX9_times_32 ⟨by decide, by decide⟩ (fun v9 M1 H1 locs1 hpost hh hz9 hk9 hn9 => ?_)
        obtain ⟨rfl, hscr⟩ := hpost
        obtain ⟨v1, f1, hR1, hvo, hrw1, hkc⟩ := hscr
        have hR : M1 m0 = some (.inr (9, rL v1)) := hR1
        have hrw : M1 ra = some (.inl (cA 0, 500, .inr (.inl f1))) := hrw1
        have hkp := hkp.call hkc (by simp)
        have hM := hh.1
        refine W.eq (g2 := F0 m 35 ls [.int (bI (tiF (nB x) (nL n) (nL b)))]) rfl ?_
        refine bz_eq (tgt := 42) hx hb dX9_times_35 (by decide) (fun c_35 n_35 => ?_) (fun c_35 n_35 => ?_)
        · skip
          have h5 := bI_eq0 c_35
          refine lv_iconst (v := 0) hx hb dX9_times_42 (by decide) ?_
          exact hreti _ _ _ _ _ _ _ _ hh (⟨by unfold tiV; rw [show byB x = true from h1, show hpB n = true from h2, show hpB b = true from h3, if_pos t3, h5]; rfl, ⟨v1, _, hR, hvo, hrw, hkp⟩⟩) (by decide) (by decide) dX9_times_43 rfl
        · skip
          have h5 := bI_ne0 c_35
          refine lv_iconst (v := 1) hx hb dX9_times_38 (by decide) ?_
          refine lv_goto (tgt := 43) hx hb dX9_times_39 (by decide) ?_
          exact hreti _ _ _ _ _ _ _ _ hh (⟨by unfold tiV; rw [show byB x = true from h1, show hpB n = true from h2, show hpB b = true from h3, if_pos t3, h5]; rfl, ⟨v1, _, hR, hvo, hrw, hkp⟩⟩) (by decide) (by decide) dX9_times_43 rfl
      · skip
        have h3 := bI_eq0 c_19
        refine lv_bipush (v := (-2)) hx hb dX9_times_22 (by decide) ?_
        refine lv_goto (tgt := 43) hx hb dX9_times_24 (by decide) ?_
        exact hreti _ _ _ _ _ _ _ _ hh (⟨by simp [tiV, h1, h2, h3], ⟨v, _, hR, fun _ _ _ _ _ => rfl, hrw, hkp⟩⟩) (by decide) (by decide) dX9_times_43 rfl
set_option maxHeartbeats 1000000 in
set_option maxRecDepth 100000 in
theorem k_X9_timesMove (l : Launch) (D : va_G) (cA : Nat → ClassId) (M : mp) (m0 : Nat) (v : Nat → Value) (ra : Nat) (f0 : Nat → Int64) (x : Int32) (n b : Int64) (hR : M m0 = some (.inr (9, rL v))) (hv1 : v 1 = .ref ra) (hrw : M ra = some (.inl (cA 0, 500, .inr (.inl f0))))  : MC l D cA yX9_timesMove wsX9_timesMove 3 77 0 0 [.ref m0, .int x, .long n, .long b] M (fun r M' => r = some (.long (tmV x n b)) ∧ scr cA M M' m0 ra v) := by
  refine MC.of (cc := cX9_timesMove) (maxL := 6) (ret := (some .long)) (by decide) rfl (Nat.le_of_ble_eq_true rfl) ?_
  intro p e s m args below meth c Q ls B hh hl hretv hreti hretz hretl hreta
  obtain ⟨hx, hb, hown, hts, hml, hK, hin⟩ := B
  have hM := hh.1
  have hM_0 := hh.1
  have hkp : kpL M M [m0, ra] := kpL.rf M _
  have hown : s.vm.findClass RX9 = some m.cls := hown
  have hl : lv_has ls 6 [(0, .ref m0), (1, .int x), (2, .long n), (4, .long b)] := hl
  have cst_62 := hts (.constantLong RX9 62 (-2)) (by decide +kernel)
  refine lv_iload_n hx hb dX9_timesMove_0 rfl (lv_at hl 1 rfl) ?_
  refine cpS (As := [.int x]) (rest := []) (k_X9_isBy l D cA _ x) ⟨hx, hb, hml, hown, hts⟩ (va_cwS 1 hts gX9_timesMove_X9_isBy rfl rfl rfl (by decide +kernel) ⟨by decide, by decide⟩) hK hM rfl hl.1 rfl (Nat.le_of_ble_eq_true rfl) dX9_timesMove_1 ⟨by decide, by decide⟩ ?_
  refine bz_eq (tgt := 22) hx hb dX9_timesMove_4 (by decide) (fun c_4 n_4 => ?_) (fun c_4 n_4 => ?_)
  · skip
    have h1 := bI_eq0 c_4
    refine lv_ldc2 hx hb hown cst_62 dX9_timesMove_22 ?_
    exact hretl _ _ _ _ _ _ _ _ hh (⟨by simp [tmV, h1], ⟨v, _, hR, fun _ _ _ _ _ => rfl, hrw, hkp⟩⟩) (by decide) (by decide) dX9_timesMove_25 rfl
  · skip
    have h1 := bI_ne0 c_4
    refine lv_lload_n hx hb dX9_timesMove_7 rfl (lv_at hl 2 rfl) ?_
    refine cpS (As := [.long n]) (rest := []) (k_X9_isHeap l D cA _ n) ⟨hx, hb, hml, hown, hts⟩ (va_cwS 1 hts gX9_timesMove_X9_isHeap rfl rfl rfl (by decide +kernel) ⟨by decide, by decide⟩) hK hM rfl hl.1 rfl (Nat.le_of_ble_eq_true rfl) dX9_timesMove_8 ⟨by decide, by decide⟩ ?_
    refine bz_eq (tgt := 22) hx hb dX9_timesMove_11 (by decide) (fun c_11 n_11 => ?_) (fun c_11 n_11 => ?_)
    · skip
      have h2 := bI_eq0 c_11
      refine lv_ldc2 hx hb hown cst_62 dX9_timesMove_22 ?_
      exact hretl _ _ _ _ _ _ _ _ hh (⟨by simp [tmV, h1, h2], ⟨v, _, hR, fun _ _ _ _ _ => rfl, hrw, hkp⟩⟩) (by decide) (by decide) dX9_timesMove_25 rfl
    · skip
      have h2 := bI_ne0 c_11
      refine lv_lload hx hb dX9_timesMove_14 (lv_at hl 3 rfl) ?_
      refine cpS (As := [.long b]) (rest := []) (k_X9_isHeap l D cA _ b) ⟨hx, hb, hml, hown, hts⟩ (va_cwS 1 hts gX9_timesMove_X9_isHeap rfl rfl rfl (by decide +kernel) ⟨by decide, by decide⟩) hK hM rfl hl.1 rfl (Nat.le_of_ble_eq_true rfl) dX9_timesMove_16 ⟨by decide, by decide⟩ ?_
      refine bz_ne (tgt := 26) hx hb dX9_timesMove_19 (by decide) (fun c_19 n_19 => ?_) (fun c_19 n_19 => ?_)
      · skip
        have h3 := bI_ne0 c_19
        obtain ⟨ex, x1, x9⟩ := by_of h1
        obtain ⟨hz1, hz2, hz3, hz4, hz5⟩ := row_0 (nB x) (by omega) x1
        obtain ⟨en, ln⟩ := hp_heap h2
        obtain ⟨eb, lb⟩ := hp_heap h3
        refine lv_aload_n hx hb dX9_timesMove_26 rfl (lv_at hl 0 rfl) ?_
        refine lv_iload_n hx hb dX9_timesMove_27 rfl (lv_at hl 1 rfl) ?_
        refine lv_lload_n hx hb dX9_timesMove_28 rfl (lv_at hl 2 rfl) ?_
        refine lv_lload hx hb dX9_timesMove_29 (lv_at hl 3 rfl) ?_
        refine cmV (As := [.int x, .long n, .long b]) (rest := []) (by have h9 := k_X9_isTimes l D cA _ m0 v ra f0 (nB x) (nL n) (nL b) hR hv1 hrw x1 x9 ln lb; rw [← ex, ← en, ← eb] at h9; exact h9) ⟨hx, hb, hml, hown, hts⟩ (cwV 3 hts gX9_timesMove_X9_isTimes rfl rfl rfl (by decide +kernel) ⟨by decide, by decide⟩) hK hh hR rfl rfl hl.1 rfl (Nat.le_of_ble_eq_true rfl) dX9_timesMove_31 ⟨by decide, by decide⟩ (fun v9 M1 H1 locs1 hpost hh hz9 hk9 hn9 => ?_)
        obtain ⟨rfl, hscr⟩ := hpost
        obtain ⟨v1, f1, hR1, hvo, hrw1, hkc⟩ := hscr
        have hR : M1 m0 = some (.inr (9, rL v1)) := hR1
        have hrw : M1 ra = some (.inl (cA 0, 500, .inr (.inl f1))) := hrw1
        have hkp := hkp.call hkc (by simp)
        have hM := hh.1
        refine W.eq (g2 := F0 m 34 ls [.int (bI (tiF (nB x) (nL n) (nL b)))]) rfl ?_
        refine bz_eq (tgt := 46) hx hb dX9_timesMove_34 (by decide) (fun c_34 n_34 => ?_) (fun c_34 n_34 => ?_)
        · skip
          have h5 := bI_eq0 c_34
          refine lv_lconst (v := 0) hx hb dX9_timesMove_46 (by decide) ?_
          exact hretl _ _ _ _ _ _ _ _ hh (⟨by unfold tmV; rw [show byB x = true from h1, show hpB n = true from h2, show hpB b = true from h3, if_pos t3, h5]; rfl, ⟨v1, _, hR, hvo, hrw, hkp⟩⟩) (by decide) (by decide) dX9_timesMove_47 rfl
        · skip
          have h5 := bI_ne0 c_34
          refine lv_aload_n hx hb dX9_timesMove_37 rfl (lv_at hl 0 rfl) ?_
          refine lv_iload_n hx hb dX9_timesMove_38 rfl (lv_at hl 1 rfl) ?_
          refine lv_lload_n hx hb dX9_timesMove_39 rfl (lv_at hl 2 rfl) ?_
          refine cmV (As := [.int x, .long n]) (rest := []) (by have h9 := k_X9_lastOf l D cA _ m0 v1 ra f1 (nB x) (nL n) hR ((hvo 1 (by decide) (by decide) (by decide) (by decide)).trans (hv1)) hrw x1 x9 ln; rw [← ex, ← en] at h9; exact h9) ⟨hx, hb, hml, hown, hts⟩ (cwV 2 hts gX9_timesMove_X9_lastOf rfl rfl rfl (by decide +kernel) ⟨by decide, by decide⟩) hK hh hR rfl rfl hl.1 rfl (Nat.le_of_ble_eq_true rfl) dX9_timesMove_40 ⟨by decide, by decide⟩ (fun v9 M1 H1 locs1 hpost hh hz9 hk9 hn9 => ?_)
          obtain ⟨rfl, ⟨v2, f2, hR1, hv17, hvo2, hrw1⟩, hkc⟩ := hpost
          have hR : M1 m0 = some (.inr (9, rL v2)) := hR1
          have hrw : M1 ra = some (.inl (cA 0, 500, .inr (.inl f2))) := hrw1
          have hkp := hkp.call hkc (by simp)
          have hM := hh.1
          refine W.eq (g2 := F0 m 43 ls [.long (lN (enD (nB x) (nL n)))]) rfl ?_
          refine lv_goto (tgt := 47) hx hb dX9_timesMove_43 (by decide) ?_
          exact hretl _ _ _ _ _ _ _ _ hh (⟨by unfold tmV; rw [show byB x = true from h1, show hpB n = true from h2, show hpB b = true from h3, if_pos t3, h5]; rfl, ⟨v2, _, hR, fun k h1 h2 h3 h4 => (hvo2 k h1 h4).trans (hvo k h1 h2 h3 h4), hrw, hkp⟩⟩) (by decide) (by decide) dX9_timesMove_47 rfl
      · skip
        have h3 := bI_eq0 c_19
        refine lv_ldc2 hx hb hown cst_62 dX9_timesMove_22 ?_
        exact hretl _ _ _ _ _ _ _ _ hh (⟨by simp [tmV, h1, h2, h3], ⟨v, _, hR, fun _ _ _ _ _ => rfl, hrw, hkp⟩⟩) (by decide) (by decide) dX9_timesMove_25 rfl
