set_option maxHeartbeats 1000000 in
set_option maxRecDepth 100000 in
theorem k_X9_goShares (l : Launch) (D : va_G) (cA : Nat → ClassId) (M : mp) (m0 : Nat) (v : Nat → Value) (wn : Nat) (fw : Nat → Int32) (pt : Nat) (mi : Bool) (x y : Nat)  (hR : M m0 = some (.inr (9, rL v))) (hv3 : v 3 = .ref wn) (hwn : M wn = some (.inl (cA 2, 14884, .inl fw))) (hpt : pt ≤ 3) (hx0 : x ≤ 60) (hy0 : y ≤ 60) (hup : upTo 0 mi pt x y fw)  : PC l D cA yX9_goShares wsX9_goShares 0 0 [.ref m0, .int (nI pt), .int (bI mi), .int (nI x), .int (nI y)] M (some (.int (bI (!lsB 0 mi x y)))) := by
  refine PC.zz (cc := cX9_goShares) (maxL := 7) (by decide) rfl (Nat.le_of_ble_eq_true rfl) ?_
  intro p e s m args below meth c H Q ls B hM hl hret
  obtain ⟨hx, hb, hown, hts, hml, hK, hin⟩ := B
  have hown : s.vm.findClass RX9 = some m.cls := hown
  have hl : lv_has ls 7 [(0, .ref m0), (1, .int (nI pt)), (2, .int (bI mi)), (3, .int (nI x)), (4, .int (nI y))] := hl
  have in_X9 : ∀ w ∈ wsX90, w ∈ wsX9_goShares := by decide +kernel
  have fl_16 := hts (.fieldLink RX9 16 "GoldHeapsModel" "won" "[Z") (by decide +kernel)
  have hok := gs_ok (mi := mi) hx0 hy0
  refine lv_iload_n hx hb dX9_goShares_0 rfl (lv_at hl 3 rfl) ?_
  refine bz_eq (tgt := 9) hx hb dX9_goShares_1 (by decide) (fun c_1 n_1 => ?_) (fun c_1 n_1 => ?_)
  · skip
    have e0 : x = 0 := (nI_eq (b := 0) (by omega) (by decide)).mp c_1
    refine lv_iload_n hx hb dX9_goShares_9 rfl (lv_at hl 2 rfl) ?_
    exact hret _ _ _ dX9_goShares_10 (by rw [← hok, if_pos (Or.inl e0)])
  · skip
    have e0 : ¬ x = 0 := fun z => c_1 (by rw [z]; rfl)
    refine lv_iload hx hb dX9_goShares_4 (lv_at hl 4 rfl) ?_
    refine bz_ne (tgt := 11) hx hb dX9_goShares_6 (by decide) (fun c_6 n_6 => ?_) (fun c_6 n_6 => ?_)
    · skip
      have e1 : ¬ y = 0 := fun z => c_6 (by rw [z]; rfl)
      refine lv_iconst (v := 0) hx hb dX9_goShares_11 (by decide) ?_
      refine tpi (x' := bI false) (rfl) ?_
      refine lv_istore (lv' := [(5, .int (bI false)), (0, .ref m0), (1, .int (nI pt)), (2, .int (bI mi)), (3, .int (nI x)), (4, .int (nI y))]) hx hb dX9_goShares_12 hl (by decide) rfl (fun ls hl => ?_)
      refine lv_iload_n hx hb dX9_goShares_14 rfl (lv_at hl 4 rfl) ?_
      refine lv_iload hx hb dX9_goShares_15 (lv_at hl 5 rfl) ?_
      refine lv_isub hx hb dX9_goShares_17 ?_
      refine lv_istore (lv' := [(6, .int ((nI x - nI y))), (5, .int (bI false)), (0, .ref m0), (1, .int (nI pt)), (2, .int (bI mi)), (3, .int (nI x)), (4, .int (nI y))]) hx hb dX9_goShares_18 hl (by decide) rfl (fun ls hl => ?_)
      have j_20 : ∀ (fu : Nat) (d u : Nat) (cn : Bool) (ls : Array Slot), (u < d) → (u ≤ x) → ((cn || lpA (fun k => lsB 0 mi k y) y d u) = lpA (fun k => lsB 0 mi k y) y (x + 1) x) → (u < fu) → lv_has ls 7 [(0, .ref m0), (1, .int (nI pt)), (3, .int (nI x)), (4, .int (nI y)), (5, .int (bI cn)), (6, .int (nI u - nI y))] → W p l e ({ frames := 0, cells := 0, slots := 0, locals := 0 } : Room) s m args below meth c H [] 0 0 Q (F0 m 20 ls []) := by
        intro fu
        induction fu with
        | zero => intro d u cn ls hd hu hs hm_20 _; exact absurd hm_20 (Nat.not_lt_zero _)
        | succ fu ih_20 =>
          intro d u cn ls hd hu hs hm_20 hl
          obtain ⟨d1, hd1⟩ : ∃ d1, d = d1 + 1 := ⟨d - 1, by omega⟩
          refine lv_iload hx hb dX9_goShares_20 (lv_at hl 5 rfl) ?_
          refine bz_lt (tgt := 69) hx hb dX9_goShares_22 (by decide) (fun c_22 n_22 => ?_) (fun c_22 n_22 => ?_)
          · skip
            have hlt : u < y := by rcases Nat.lt_or_ge u y with g | g; exact g; (rw [nI_sub g] at c_22; exact absurd c_22 (nI_pos (by omega)))
            have hcn1 : cn = lpA (fun k => lsB 0 mi k y) y (x + 1) x := by rw [← hs, hd1]; show cn = (cn || (if y ≤ u then _ else false)); rw [if_neg (by omega), Bool.or_false]
            refine lv_iload hx hb dX9_goShares_69 (lv_at hl 3 rfl) ?_
            refine lv_iload_n hx hb dX9_goShares_71 rfl (lv_at hl 2 rfl) ?_
            refine lv_isub hx hb dX9_goShares_72 ?_
            refine lv_istore (lv' := [(6, .int ((nI y - nI x))), (0, .ref m0), (1, .int (nI pt)), (3, .int (nI x)), (4, .int (nI y)), (5, .int (bI cn))]) hx hb dX9_goShares_73 hl (by decide) rfl (fun ls hl => ?_)
            have j_75 : ∀ (fu : Nat) (d u : Nat) (cn : Bool) (ls : Array Slot), (u < d) → (u ≤ y) → ((cn || lpA (fun k => lsB 0 mi x k) x d u) = gsT mi x y) → (u < fu) → lv_has ls 7 [(0, .ref m0), (1, .int (nI pt)), (3, .int (nI x)), (4, .int (nI y)), (5, .int (bI cn)), (6, .int (nI u - nI x))] → W p l e ({ frames := 0, cells := 0, slots := 0, locals := 0 } : Room) s m args below meth c H [] 0 0 Q (F0 m 75 ls []) := by
              intro fu
              induction fu with
              | zero => intro d u cn ls hd hu hs hm_75 _; exact absurd hm_75 (Nat.not_lt_zero _)
              | succ fu ih_75 =>
                intro d u cn ls hd hu hs hm_75 hl
                obtain ⟨d1, hd1⟩ : ∃ d1, d = d1 + 1 := ⟨d - 1, by omega⟩
                refine lv_iload hx hb dX9_goShares_75 (lv_at hl 5 rfl) ?_
                refine bz_lt (tgt := 122) hx hb dX9_goShares_77 (by decide) (fun c_77 n_77 => ?_) (fun c_77 n_77 => ?_)
                · skip
                  have hlt : u < x := by rcases Nat.lt_or_ge u x with g | g; exact g; (rw [nI_sub g] at c_77; exact absurd c_77 (nI_pos (by omega)))
                  have hcn2 : cn = gsT mi x y := by rw [← hs, hd1]; show cn = (cn || (if x ≤ u then _ else false)); rw [if_neg (by omega), Bool.or_false]
                  refine lv_iload hx hb dX9_goShares_122 (lv_at hl 4 rfl) ?_
                  exact hret _ _ _ dX9_goShares_124 (by rw [← hok, if_neg (fun z => z.elim e0 e1), hcn2])
                · skip
                  have hle : x ≤ u := by rcases Nat.lt_or_ge u x with g | g; exact absurd (pk_sneg (by omega) g) n_77; exact g
                  refine lv_iload hx hb dX9_goShares_80 (lv_at hl 4 rfl) ?_
                  refine bz_ne (tgt := 106) hx hb dX9_goShares_82 (by decide) (fun c_82 n_82 => ?_) (fun c_82 n_82 => ?_)
                  · skip
                    have hcn := bI_ne0 c_82
                    refine lv_iconst (v := 1) hx hb dX9_goShares_106 (by decide) ?_
                    refine tpi (x' := bI true) (rfl) ?_
                    refine lv_goto (tgt := 111) hx hb dX9_goShares_107 (by decide) ?_
                    refine lv_istore (lv' := [(5, .int (bI true)), (0, .ref m0), (1, .int (nI pt)), (3, .int (nI x)), (4, .int (nI y)), (6, .int (nI u - nI x))]) hx hb dX9_goShares_111 hl (by decide) rfl (fun ls hl => ?_)
                    refine lv_iload hx hb dX9_goShares_113 (lv_at hl 5 rfl) ?_
                    refine tpi (x' := nI (u - x)) (nI_sub hle) ?_
                    refine lv_iload_n hx hb dX9_goShares_115 rfl (lv_at hl 3 rfl) ?_
                    refine lv_isub hx hb dX9_goShares_116 ?_
                    refine lv_istore (lv' := [(6, .int ((nI (u - x) - nI x))), (5, .int (bI true)), (0, .ref m0), (1, .int (nI pt)), (3, .int (nI x)), (4, .int (nI y))]) hx hb dX9_goShares_117 hl (by decide) rfl (fun ls hl => ?_)
                    refine lv_goto (tgt := 75) hx hb dX9_goShares_119 (by decide) ?_
                    exact ih_75 d1 (u - x) true _ (by omega) (by omega) (by rw [← hs, hd1]; show _ = (cn || (if x ≤ u then (fun k => lsB 0 mi x k) (u - x) || lpA (fun k => lsB 0 mi x k) x d1 (u - x) else false)); rw [if_pos hle, hcn]; rfl) (by omega) (lv_sub hl [2, 3, 4, 5, 1, 0] rfl)
                  · skip
                    have hcn := bI_eq0 c_82
                    refine lv_aload_n hx hb dX9_goShares_85 rfl (lv_at hl 0 rfl) ?_
                    refine m_get (ci := 9) (C := RX9) (T := TX9) (N := 18) (v := v 3) hx hb hts in_X9 hown hK hM hR rfl 3 (by decide) fl_16 (fun _ h => h) rfl dX9_goShares_86 ?_
                    refine tpv (hv3) ?_
                    refine lv_sipush (v := 3721) hx hb dX9_goShares_89 (by decide) ?_
                    refine lv_iload_n hx hb dX9_goShares_92 rfl (lv_at hl 1 rfl) ?_
                    refine lv_imul hx hb dX9_goShares_93 ?_
                    refine tpi (x' := nI (3721 * pt)) (pk_mul 3721 pt) ?_
                    refine lv_bipush (v := 61) hx hb dX9_goShares_94 (by decide) ?_
                    refine lv_iload_n hx hb dX9_goShares_96 rfl (lv_at hl 2 rfl) ?_
                    refine lv_imul hx hb dX9_goShares_97 ?_
                    refine tpi (x' := nI (61 * x)) (pk_mul 61 _) ?_
                    refine lv_iadd hx hb dX9_goShares_98 ?_
                    refine tpi (x' := nI (3721 * pt + 61 * x)) (nI_add _ _) ?_
                    refine lv_iload hx hb dX9_goShares_99 (lv_at hl 5 rfl) ?_
                    refine tpi (x' := nI (u - x)) (nI_sub hle) ?_
                    refine lv_iadd hx hb dX9_goShares_101 ?_
                    refine tpi (x' := nI (3721 * pt + 61 * x + (u - x))) (nI_add _ _) ?_
                    refine m_zaldN (k := 3721 * pt + 61 * x + (u - x)) hx hb hK hM hwn (rfl) (by omega) (by decide) dX9_goShares_102 ?_
                    refine tpi (x' := bI (!lsB 0 mi x (u - x))) (hup _ _ hx0 (by omega) (Or.inr ⟨rfl, by omega⟩)) ?_
                    refine bz_ne (tgt := 110) hx hb dX9_goShares_103 (by decide) (fun c_103 n_103 => ?_) (fun c_103 n_103 => ?_)
                    · skip
                      have hls := bI_nn0 c_103
                      refine lv_iconst (v := 0) hx hb dX9_goShares_110 (by decide) ?_
                      refine tpi (x' := bI false) (rfl) ?_
                      refine lv_istore (lv' := [(5, .int (bI false)), (0, .ref m0), (1, .int (nI pt)), (3, .int (nI x)), (4, .int (nI y)), (6, .int (nI u - nI x))]) hx hb dX9_goShares_111 hl (by decide) rfl (fun ls hl => ?_)
                      refine lv_iload hx hb dX9_goShares_113 (lv_at hl 5 rfl) ?_
                      refine tpi (x' := nI (u - x)) (nI_sub hle) ?_
                      refine lv_iload_n hx hb dX9_goShares_115 rfl (lv_at hl 3 rfl) ?_
                      refine lv_isub hx hb dX9_goShares_116 ?_
                      refine lv_istore (lv' := [(6, .int ((nI (u - x) - nI x))), (5, .int (bI false)), (0, .ref m0), (1, .int (nI pt)), (3, .int (nI x)), (4, .int (nI y))]) hx hb dX9_goShares_117 hl (by decide) rfl (fun ls hl => ?_)
                      refine lv_goto (tgt := 75) hx hb dX9_goShares_119 (by decide) ?_
                      exact ih_75 d1 (u - x) false _ (by omega) (by omega) (by rw [← hs, hd1]; show _ = (cn || (if x ≤ u then (fun k => lsB 0 mi x k) (u - x) || lpA (fun k => lsB 0 mi x k) x d1 (u - x) else false)); rw [if_pos hle, hcn, show (fun k => lsB 0 mi x k) (u - x) = false from hls]; rfl) (by omega) (lv_sub hl [2, 3, 4, 5, 1, 0] rfl)
                    · skip
                      have hls := bI_n0 c_103
                      refine lv_iconst (v := 1) hx hb dX9_goShares_106 (by decide) ?_
                      refine tpi (x' := bI true) (rfl) ?_
                      refine lv_goto (tgt := 111) hx hb dX9_goShares_107 (by decide) ?_
                      refine lv_istore (lv' := [(5, .int (bI true)), (0, .ref m0), (1, .int (nI pt)), (3, .int (nI x)), (4, .int (nI y)), (6, .int (nI u - nI x))]) hx hb dX9_goShares_111 hl (by decide) rfl (fun ls hl => ?_)
                      refine lv_iload hx hb dX9_goShares_113 (lv_at hl 5 rfl) ?_
                      refine tpi (x' := nI (u - x)) (nI_sub hle) ?_
                      refine lv_iload_n hx hb dX9_goShares_115 rfl (lv_at hl 3 rfl) ?_
                      refine lv_isub hx hb dX9_goShares_116 ?_
                      refine lv_istore (lv' := [(6, .int ((nI (u - x) - nI x))), (5, .int (bI true)), (0, .ref m0), (1, .int (nI pt)), (3, .int (nI x)), (4, .int (nI y))]) hx hb dX9_goShares_117 hl (by decide) rfl (fun ls hl => ?_)
                      refine lv_goto (tgt := 75) hx hb dX9_goShares_119 (by decide) ?_
                      exact ih_75 d1 (u - x) true _ (by omega) (by omega) (by rw [← hs, hd1]; show _ = (cn || (if x ≤ u then (fun k => lsB 0 mi x k) (u - x) || lpA (fun k => lsB 0 mi x k) x d1 (u - x) else false)); rw [if_pos hle, hcn, show (fun k => lsB 0 mi x k) (u - x) = true from hls]; rfl) (by omega) (lv_sub hl [2, 3, 4, 5, 1, 0] rfl)
            exact j_75 (y + 1) (y + 1) y cn _ (by omega) (Nat.le_refl _) (by rw [hcn1]; rfl) (by omega) (lv_sub hl [1, 2, 3, 4, 5, 0] rfl)
          · skip
            have hle : y ≤ u := by rcases Nat.lt_or_ge u y with g | g; exact absurd (pk_sneg (by omega) g) n_22; exact g
            refine lv_iload hx hb dX9_goShares_25 (lv_at hl 4 rfl) ?_
            refine bz_ne (tgt := 52) hx hb dX9_goShares_27 (by decide) (fun c_27 n_27 => ?_) (fun c_27 n_27 => ?_)
            · skip
              have hcn := bI_ne0 c_27
              refine lv_iconst (v := 1) hx hb dX9_goShares_52 (by decide) ?_
              refine tpi (x' := bI true) (rfl) ?_
              refine lv_goto (tgt := 57) hx hb dX9_goShares_53 (by decide) ?_
              refine lv_istore (lv' := [(5, .int (bI true)), (0, .ref m0), (1, .int (nI pt)), (3, .int (nI x)), (4, .int (nI y)), (6, .int (nI u - nI y))]) hx hb dX9_goShares_57 hl (by decide) rfl (fun ls hl => ?_)
              refine lv_iload hx hb dX9_goShares_59 (lv_at hl 5 rfl) ?_
              refine tpi (x' := nI (u - y)) (nI_sub hle) ?_
              refine lv_iload hx hb dX9_goShares_61 (lv_at hl 4 rfl) ?_
              refine lv_isub hx hb dX9_goShares_63 ?_
              refine lv_istore (lv' := [(6, .int ((nI (u - y) - nI y))), (5, .int (bI true)), (0, .ref m0), (1, .int (nI pt)), (3, .int (nI x)), (4, .int (nI y))]) hx hb dX9_goShares_64 hl (by decide) rfl (fun ls hl => ?_)
              refine lv_goto (tgt := 20) hx hb dX9_goShares_66 (by decide) ?_
              exact ih_20 d1 (u - y) true _ (by omega) (by omega) (by rw [← hs, hd1]; show _ = (cn || (if y ≤ u then (fun k => lsB 0 mi k y) (u - y) || lpA (fun k => lsB 0 mi k y) y d1 (u - y) else false)); rw [if_pos hle, hcn]; rfl) (by omega) (lv_sub hl [2, 3, 4, 5, 1, 0] rfl)
            · skip
              have hcn := bI_eq0 c_27
              refine lv_aload_n hx hb dX9_goShares_30 rfl (lv_at hl 0 rfl) ?_
              refine m_get (ci := 9) (C := RX9) (T := TX9) (N := 18) (v := v 3) hx hb hts in_X9 hown hK hM hR rfl 3 (by decide) fl_16 (fun _ h => h) rfl dX9_goShares_31 ?_
              refine tpv (hv3) ?_
              refine lv_sipush (v := 3721) hx hb dX9_goShares_34 (by decide) ?_
              refine lv_iload_n hx hb dX9_goShares_37 rfl (lv_at hl 1 rfl) ?_
              refine lv_imul hx hb dX9_goShares_38 ?_
              refine tpi (x' := nI (3721 * pt)) (pk_mul 3721 pt) ?_
              refine lv_bipush (v := 61) hx hb dX9_goShares_39 (by decide) ?_
              refine lv_iload hx hb dX9_goShares_41 (lv_at hl 5 rfl) ?_
              refine tpi (x' := nI (u - y)) (nI_sub hle) ?_
              refine lv_imul hx hb dX9_goShares_43 ?_
              refine tpi (x' := nI (61 * (u - y))) (pk_mul 61 _) ?_
              refine lv_iadd hx hb dX9_goShares_44 ?_
              refine tpi (x' := nI (3721 * pt + 61 * (u - y))) (nI_add _ _) ?_
              refine lv_iload hx hb dX9_goShares_45 (lv_at hl 3 rfl) ?_
              refine lv_iadd hx hb dX9_goShares_47 ?_
              refine tpi (x' := nI (3721 * pt + 61 * (u - y) + y)) (nI_add _ _) ?_
              refine m_zaldN (k := 3721 * pt + 61 * (u - y) + y) hx hb hK hM hwn (rfl) (by omega) (by decide) dX9_goShares_48 ?_
              refine tpi (x' := bI (!lsB 0 mi (u - y) y)) (hup _ _ (by omega) hy0 (Or.inl (by omega))) ?_
              refine bz_ne (tgt := 56) hx hb dX9_goShares_49 (by decide) (fun c_49 n_49 => ?_) (fun c_49 n_49 => ?_)
              · skip
                have hls := bI_nn0 c_49
                refine lv_iconst (v := 0) hx hb dX9_goShares_56 (by decide) ?_
                refine tpi (x' := bI false) (rfl) ?_
                refine lv_istore (lv' := [(5, .int (bI false)), (0, .ref m0), (1, .int (nI pt)), (3, .int (nI x)), (4, .int (nI y)), (6, .int (nI u - nI y))]) hx hb dX9_goShares_57 hl (by decide) rfl (fun ls hl => ?_)
                refine lv_iload hx hb dX9_goShares_59 (lv_at hl 5 rfl) ?_
                refine tpi (x' := nI (u - y)) (nI_sub hle) ?_
                refine lv_iload hx hb dX9_goShares_61 (lv_at hl 4 rfl) ?_
                refine lv_isub hx hb dX9_goShares_63 ?_
                refine lv_istore (lv' := [(6, .int ((nI (u - y) - nI y))), (5, .int (bI false)), (0, .ref m0), (1, .int (nI pt)), (3, .int (nI x)), (4, .int (nI y))]) hx hb dX9_goShares_64 hl (by decide) rfl (fun ls hl => ?_)
                refine lv_goto (tgt := 20) hx hb dX9_goShares_66 (by decide) ?_
                exact ih_20 d1 (u - y) false _ (by omega) (by omega) (by rw [← hs, hd1]; show _ = (cn || (if y ≤ u then (fun k => lsB 0 mi k y) (u - y) || lpA (fun k => lsB 0 mi k y) y d1 (u - y) else false)); rw [if_pos hle, hcn, show (fun k => lsB 0 mi k y) (u - y) = false from hls]; rfl) (by omega) (lv_sub hl [2, 3, 4, 5, 1, 0] rfl)
              · skip
                have hls := bI_n0 c_49
                refine lv_iconst (v := 1) hx hb dX9_goShares_52 (by decide) ?_
                refine tpi (x' := bI true) (rfl) ?_
                refine lv_goto (tgt := 57) hx hb dX9_goShares_53 (by decide) ?_
                refine lv_istore (lv' := [(5, .int (bI true)), (0, .ref m0), (1, .int (nI pt)), (3, .int (nI x)), (4, .int (nI y)), (6, .int (nI u - nI y))]) hx hb dX9_goShares_57 hl (by decide) rfl (fun ls hl => ?_)
                refine lv_iload hx hb dX9_goShares_59 (lv_at hl 5 rfl) ?_
                refine tpi (x' := nI (u - y)) (nI_sub hle) ?_
                refine lv_iload hx hb dX9_goShares_61 (lv_at hl 4 rfl) ?_
                refine lv_isub hx hb dX9_goShares_63 ?_
                refine lv_istore (lv' := [(6, .int ((nI (u - y) - nI y))), (5, .int (bI true)), (0, .ref m0), (1, .int (nI pt)), (3, .int (nI x)), (4, .int (nI y))]) hx hb dX9_goShares_64 hl (by decide) rfl (fun ls hl => ?_)
                refine lv_goto (tgt := 20) hx hb dX9_goShares_66 (by decide) ?_
                exact ih_20 d1 (u - y) true _ (by omega) (by omega) (by rw [← hs, hd1]; show _ = (cn || (if y ≤ u then (fun k => lsB 0 mi k y) (u - y) || lpA (fun k => lsB 0 mi k y) y d1 (u - y) else false)); rw [if_pos hle, hcn, show (fun k => lsB 0 mi k y) (u - y) = true from hls]; rfl) (by omega) (lv_sub hl [2, 3, 4, 5, 1, 0] rfl)
      exact j_20 (x + 1) (x + 1) x false _ (by omega) (Nat.le_refl _) (Bool.false_or _) (by omega) (lv_sub hl [2, 3, 5, 6, 1, 0] rfl)
    · skip
      have e1 : y = 0 := (nI_eq (b := 0) (by omega) (by decide)).mp c_6
      refine lv_iload_n hx hb dX9_goShares_9 rfl (lv_at hl 2 rfl) ?_
      exact hret _ _ _ dX9_goShares_10 (by rw [← hok, if_pos (Or.inr e1)])
set_option maxHeartbeats 1000000 in
set_option maxRecDepth 100000 in
theorem k_X9_goBoth (l : Launch) (D : va_G) (cA : Nat → ClassId) (M : mp) (m0 : Nat) (v : Nat → Value) (wn : Nat) (fw : Nat → Int32) (pt : Nat) (mi : Bool) (x y : Nat)  (hR : M m0 = some (.inr (9, rL v))) (hv3 : v 3 = .ref wn) (hwn : M wn = some (.inl (cA 2, 14884, .inl fw))) (hpt : pt ≤ 3) (hx0 : x ≤ 60) (hy0 : y ≤ 60) (hup : upTo 1 mi pt x y fw)  : PC l D cA yX9_goBoth wsX9_goBoth 0 0 [.ref m0, .int (nI pt), .int (bI mi), .int (nI x), .int (nI y)] M (some (.int (bI (!lsB 1 mi x y)))) := by
  refine PC.zz (cc := cX9_goBoth) (maxL := 7) (by decide) rfl (Nat.le_of_ble_eq_true rfl) ?_
  intro p e s m args below meth c H Q ls B hM hl hret
  obtain ⟨hx, hb, hown, hts, hml, hK, hin⟩ := B
  have hown : s.vm.findClass RX9 = some m.cls := hown
  have hl : lv_has ls 7 [(0, .ref m0), (1, .int (nI pt)), (2, .int (bI mi)), (3, .int (nI x)), (4, .int (nI y))] := hl
  have in_X9 : ∀ w ∈ wsX90, w ∈ wsX9_goBoth := by decide +kernel
  have fl_16 := hts (.fieldLink RX9 16 "GoldHeapsModel" "won" "[Z") (by decide +kernel)
  have hok := gb_ok (mi := mi) hx0 hy0
  have j_17 : ∀ (fu : Nat) (k : Nat) (ls : Array Slot), (k ≤ 60) → (¬ (x = 0 ∧ y = 0)) → (60 - k < fu) → lv_has ls 7 [(0, .ref m0), (1, .int (nI pt)), (3, .int (nI x)), (4, .int (nI y)), (5, .int (bI (anB (stB mi x y) k))), (6, .int (nI (k + 1)))] → W p l e ({ frames := 0, cells := 0, slots := 0, locals := 0 } : Room) s m args below meth c H [] 0 0 Q (F0 m 17 ls []) := by
    intro fu
    induction fu with
    | zero => intro k ls hk hne hm_17 _; exact absurd hm_17 (Nat.not_lt_zero _)
    | succ fu ih_17 =>
      intro k ls hk hne hm_17 hl
      refine lv_iload hx hb dX9_goBoth_17 (lv_at hl 5 rfl) ?_
      refine lv_bipush (v := 60) hx hb dX9_goBoth_19 (by decide) ?_
      refine bi_gt (tgt := 143) hx hb dX9_goBoth_21 (by decide) (fun c_21 n_21 => ?_) (fun c_21 n_21 => ?_)
      · skip
        have hk6 : 60 < k + 1 := (nI_ltI (a := 60) (by decide) (by omega)).mp c_21
        have ek : k = 60 := by omega
        refine lv_iload hx hb dX9_goBoth_143 (lv_at hl 4 rfl) ?_
        exact hret _ _ _ dX9_goBoth_145 (by rw [← hok, if_neg hne, ek])
      · skip
        have hk6 : k + 1 ≤ 60 := (nI_leI (b := 60) (by omega) (by decide)).mp c_21
        have j_135 : ∀ (rz : Bool) (ls : Array Slot), (rz = (anB (stB mi x y) k || stB mi x y (k + 1))) → lv_has ls 7 [(0, .ref m0), (1, .int (nI pt)), (3, .int (nI x)), (4, .int (nI y)), (5, .int (bI (anB (stB mi x y) k))), (6, .int (nI (k + 1)))] → W p l e ({ frames := 0, cells := 0, slots := 0, locals := 0 } : Room) s m args below meth c H [] 0 0 Q (F0 m 135 ls [.int (bI rz)]) := by
          intro rz ls hrz hl
          refine tpi (x' := bI (anB (stB mi x y) (k + 1))) (by rw [hrz]; rfl) ?_
          refine lv_istore (lv' := [(5, .int (bI (anB (stB mi x y) (k + 1)))), (0, .ref m0), (1, .int (nI pt)), (3, .int (nI x)), (4, .int (nI y)), (6, .int (nI (k + 1)))]) hx hb dX9_goBoth_135 hl (by decide) rfl (fun ls hl => ?_)
          refine lv_iinc (v := nI (k + 1 + 1)) (lv' := [(6, .int (nI (k + 1 + 1))), (5, .int (bI (anB (stB mi x y) (k + 1)))), (0, .ref m0), (1, .int (nI pt)), (3, .int (nI x)), (4, .int (nI y))]) hx hb dX9_goBoth_137 hl (k := 5) rfl (nI_up _) (by decide) rfl (fun ls hl => ?_)
          refine lv_goto (tgt := 17) hx hb dX9_goBoth_140 (by decide) ?_
          exact ih_17 (k + 1) _ (by omega) hne (by omega) (lv_sub hl [2, 3, 4, 5, 1, 0] rfl)
        refine lv_iload hx hb dX9_goBoth_24 (lv_at hl 4 rfl) ?_
        refine bz_ne (tgt := 130) hx hb dX9_goBoth_26 (by decide) (fun c_26 n_26 => ?_) (fun c_26 n_26 => ?_)
        · skip
          have hcn := bI_ne0 c_26
          refine lv_iconst (v := 1) hx hb dX9_goBoth_130 (by decide) ?_
          refine tpi (x' := bI true) (rfl) ?_
          refine lv_goto (tgt := 135) hx hb dX9_goBoth_131 (by decide) ?_
          exact j_135 true _ (by rw [hcn]; rfl) (lv_sub hl [0, 1, 2, 3, 4, 5] rfl)
        · skip
          have hcn := bI_eq0 c_26
          refine lv_iload hx hb dX9_goBoth_29 (lv_at hl 5 rfl) ?_
          refine lv_iload_n hx hb dX9_goBoth_31 rfl (lv_at hl 2 rfl) ?_
          refine bi_gt (tgt := 59) hx hb dX9_goBoth_32 (by decide) (fun c_32 n_32 => ?_) (fun c_32 n_32 => ?_)
          · skip
            have k1 : ¬ k + 1 ≤ x := fun q => absurd ((nI_ltI (by omega) (by omega)).mp c_32) (by omega)
            refine lv_iload hx hb dX9_goBoth_59 (lv_at hl 5 rfl) ?_
            refine lv_iload hx hb dX9_goBoth_61 (lv_at hl 3 rfl) ?_
            refine bi_gt (tgt := 90) hx hb dX9_goBoth_63 (by decide) (fun c_63 n_63 => ?_) (fun c_63 n_63 => ?_)
            · skip
              have k2 : ¬ k + 1 ≤ y := fun q => absurd ((nI_ltI (by omega) (by omega)).mp c_63) (by omega)
              refine lv_iload hx hb dX9_goBoth_90 (lv_at hl 5 rfl) ?_
              refine lv_iload_n hx hb dX9_goBoth_92 rfl (lv_at hl 2 rfl) ?_
              refine bi_gt (tgt := 134) hx hb dX9_goBoth_93 (by decide) (fun c_93 n_93 => ?_) (fun c_93 n_93 => ?_)
              · skip
                have k3 : ¬ k + 1 ≤ x := fun q => absurd ((nI_ltI (by omega) (by omega)).mp c_93) (by omega)
                refine lv_iconst (v := 0) hx hb dX9_goBoth_134 (by decide) ?_
                refine tpi (x' := bI false) (rfl) ?_
                exact j_135 false _ (by rw [hcn]; unfold stB; first | (simp [k1, k2, k3]; done) | omega) (lv_sub hl [0, 1, 2, 3, 4, 5] rfl)
              · skip
                have k3 : k + 1 ≤ x := (nI_leI (by omega) (by omega)).mp c_93
                refine lv_iload hx hb dX9_goBoth_96 (lv_at hl 5 rfl) ?_
                refine lv_iload hx hb dX9_goBoth_98 (lv_at hl 3 rfl) ?_
                refine bi_gt (tgt := 134) hx hb dX9_goBoth_100 (by decide) (fun c_100 n_100 => ?_) (fun c_100 n_100 => ?_)
                · skip
                  have k4 : ¬ k + 1 ≤ y := fun q => absurd ((nI_ltI (by omega) (by omega)).mp c_100) (by omega)
                  refine lv_iconst (v := 0) hx hb dX9_goBoth_134 (by decide) ?_
                  refine tpi (x' := bI false) (rfl) ?_
                  exact j_135 false _ (by rw [hcn]; unfold stB; first | (simp [k1, k2, k3, k4]; done) | omega) (lv_sub hl [0, 1, 2, 3, 4, 5] rfl)
                · skip
                  have k4 : k + 1 ≤ y := (nI_leI (by omega) (by omega)).mp c_100
                  refine lv_aload_n hx hb dX9_goBoth_103 rfl (lv_at hl 0 rfl) ?_
                  refine m_get (ci := 9) (C := RX9) (T := TX9) (N := 18) (v := v 3) hx hb hts in_X9 hown hK hM hR rfl 3 (by decide) fl_16 (fun _ h => h) rfl dX9_goBoth_104 ?_
                  refine tpv (hv3) ?_
                  refine lv_sipush (v := 3721) hx hb dX9_goBoth_107 (by decide) ?_
                  refine lv_iload_n hx hb dX9_goBoth_110 rfl (lv_at hl 1 rfl) ?_
                  refine lv_imul hx hb dX9_goBoth_111 ?_
                  refine tpi (x' := nI (3721 * pt)) (pk_mul 3721 pt) ?_
                  refine lv_bipush (v := 61) hx hb dX9_goBoth_112 (by decide) ?_
                  refine lv_iload_n hx hb dX9_goBoth_114 rfl (lv_at hl 2 rfl) ?_
                  refine lv_iload hx hb dX9_goBoth_115 (lv_at hl 5 rfl) ?_
                  refine lv_isub hx hb dX9_goBoth_117 ?_
                  refine tpi (x' := nI (x - (k + 1))) (nI_sub k3) ?_
                  refine lv_imul hx hb dX9_goBoth_118 ?_
                  refine tpi (x' := nI (61 * (x - (k + 1)))) (pk_mul 61 _) ?_
                  refine lv_iadd hx hb dX9_goBoth_119 ?_
                  refine tpi (x' := nI (3721 * pt + 61 * (x - (k + 1)))) (nI_add _ _) ?_
                  refine lv_iload hx hb dX9_goBoth_120 (lv_at hl 3 rfl) ?_
                  refine lv_iadd hx hb dX9_goBoth_122 ?_
                  refine tpi (x' := nI (3721 * pt + 61 * (x - (k + 1)) + y)) (nI_add _ _) ?_
                  refine lv_iload hx hb dX9_goBoth_123 (lv_at hl 5 rfl) ?_
                  refine lv_isub hx hb dX9_goBoth_125 ?_
                  refine tpi (x' := nI (3721 * pt + 61 * (x - (k + 1)) + (y - (k + 1)))) (by rw [nI_sub (by omega)]; congr 1; omega) ?_
                  refine m_zaldN (k := 3721 * pt + 61 * (x - (k + 1)) + (y - (k + 1))) hx hb hK hM hwn (rfl) (by omega) (by decide) dX9_goBoth_126 ?_
                  refine tpi (x' := bI (!lsB 1 mi (x - (k + 1)) (y - (k + 1)))) (hup _ _ (by omega) (by omega) (Or.inl (by omega))) ?_
                  refine bz_ne (tgt := 134) hx hb dX9_goBoth_127 (by decide) (fun c_127 n_127 => ?_) (fun c_127 n_127 => ?_)
                  · skip
                    have l3 := bI_nn0 c_127
                    refine lv_iconst (v := 0) hx hb dX9_goBoth_134 (by decide) ?_
                    refine tpi (x' := bI false) (rfl) ?_
                    exact j_135 false _ (by rw [hcn]; unfold stB; first | (simp [k1, k2, k3, k4, l3]; done) | omega) (lv_sub hl [0, 1, 2, 3, 4, 5] rfl)
                  · skip
                    have l3 := bI_n0 c_127
                    refine lv_iconst (v := 1) hx hb dX9_goBoth_130 (by decide) ?_
                    refine tpi (x' := bI true) (rfl) ?_
                    refine lv_goto (tgt := 135) hx hb dX9_goBoth_131 (by decide) ?_
                    exact j_135 true _ (by rw [hcn]; unfold stB; first | (simp [k1, k2, k3, k4, l3]; done) | omega) (lv_sub hl [0, 1, 2, 3, 4, 5] rfl)
            · skip
              have k2 : k + 1 ≤ y := (nI_leI (by omega) (by omega)).mp c_63
              refine lv_aload_n hx hb dX9_goBoth_66 rfl (lv_at hl 0 rfl) ?_
              refine m_get (ci := 9) (C := RX9) (T := TX9) (N := 18) (v := v 3) hx hb hts in_X9 hown hK hM hR rfl 3 (by decide) fl_16 (fun _ h => h) rfl dX9_goBoth_67 ?_
              refine tpv (hv3) ?_
              refine lv_sipush (v := 3721) hx hb dX9_goBoth_70 (by decide) ?_
              refine lv_iload_n hx hb dX9_goBoth_73 rfl (lv_at hl 1 rfl) ?_
              refine lv_imul hx hb dX9_goBoth_74 ?_
              refine tpi (x' := nI (3721 * pt)) (pk_mul 3721 pt) ?_
              refine lv_bipush (v := 61) hx hb dX9_goBoth_75 (by decide) ?_
              refine lv_iload_n hx hb dX9_goBoth_77 rfl (lv_at hl 2 rfl) ?_
              refine lv_imul hx hb dX9_goBoth_78 ?_
              refine tpi (x' := nI (61 * x)) (pk_mul 61 _) ?_
              refine lv_iadd hx hb dX9_goBoth_79 ?_
              refine tpi (x' := nI (3721 * pt + 61 * x)) (nI_add _ _) ?_
              refine lv_iload hx hb dX9_goBoth_80 (lv_at hl 3 rfl) ?_
              refine lv_iadd hx hb dX9_goBoth_82 ?_
              refine tpi (x' := nI (3721 * pt + 61 * x + y)) (nI_add _ _) ?_
              refine lv_iload hx hb dX9_goBoth_83 (lv_at hl 5 rfl) ?_
              refine lv_isub hx hb dX9_goBoth_85 ?_
              refine tpi (x' := nI (3721 * pt + 61 * x + (y - (k + 1)))) (by rw [nI_sub (by omega)]; congr 1; omega) ?_
              refine m_zaldN (k := 3721 * pt + 61 * x + (y - (k + 1))) hx hb hK hM hwn (rfl) (by omega) (by decide) dX9_goBoth_86 ?_
              refine tpi (x' := bI (!lsB 1 mi x (y - (k + 1)))) (hup _ _ hx0 (by omega) (Or.inr ⟨rfl, by omega⟩)) ?_
              refine bz_eq (tgt := 130) hx hb dX9_goBoth_87 (by decide) (fun c_87 n_87 => ?_) (fun c_87 n_87 => ?_)
              · skip
                have l2 := bI_n0 c_87
                refine lv_iconst (v := 1) hx hb dX9_goBoth_130 (by decide) ?_
                refine tpi (x' := bI true) (rfl) ?_
                refine lv_goto (tgt := 135) hx hb dX9_goBoth_131 (by decide) ?_
                exact j_135 true _ (by rw [hcn]; unfold stB; first | (simp [k1, k2, l2]; done) | omega) (lv_sub hl [0, 1, 2, 3, 4, 5] rfl)
              · skip
                have l2 := bI_nn0 c_87
                refine lv_iload hx hb dX9_goBoth_90 (lv_at hl 5 rfl) ?_
                refine lv_iload_n hx hb dX9_goBoth_92 rfl (lv_at hl 2 rfl) ?_
                refine bi_gt (tgt := 134) hx hb dX9_goBoth_93 (by decide) (fun c_93 n_93 => ?_) (fun c_93 n_93 => ?_)
                · skip
                  have k3 : ¬ k + 1 ≤ x := fun q => absurd ((nI_ltI (by omega) (by omega)).mp c_93) (by omega)
                  refine lv_iconst (v := 0) hx hb dX9_goBoth_134 (by decide) ?_
                  refine tpi (x' := bI false) (rfl) ?_
                  exact j_135 false _ (by rw [hcn]; unfold stB; first | (simp [k1, k2, l2, k3]; done) | omega) (lv_sub hl [0, 1, 2, 3, 4, 5] rfl)
                · skip
                  have k3 : k + 1 ≤ x := (nI_leI (by omega) (by omega)).mp c_93
                  refine lv_iload hx hb dX9_goBoth_96 (lv_at hl 5 rfl) ?_
                  refine lv_iload hx hb dX9_goBoth_98 (lv_at hl 3 rfl) ?_
                  refine bi_gt (tgt := 134) hx hb dX9_goBoth_100 (by decide) (fun c_100 n_100 => ?_) (fun c_100 n_100 => ?_)
                  · skip
                    have k4 : ¬ k + 1 ≤ y := fun q => absurd ((nI_ltI (by omega) (by omega)).mp c_100) (by omega)
                    refine lv_iconst (v := 0) hx hb dX9_goBoth_134 (by decide) ?_
                    refine tpi (x' := bI false) (rfl) ?_
                    exact j_135 false _ (by rw [hcn]; unfold stB; first | (simp [k1, k2, l2, k3, k4]; done) | omega) (lv_sub hl [0, 1, 2, 3, 4, 5] rfl)
                  · skip
                    have k4 : k + 1 ≤ y := (nI_leI (by omega) (by omega)).mp c_100
                    refine lv_aload_n hx hb dX9_goBoth_103 rfl (lv_at hl 0 rfl) ?_
                    refine m_get (ci := 9) (C := RX9) (T := TX9) (N := 18) (v := v 3) hx hb hts in_X9 hown hK hM hR rfl 3 (by decide) fl_16 (fun _ h => h) rfl dX9_goBoth_104 ?_
                    refine tpv (hv3) ?_
                    refine lv_sipush (v := 3721) hx hb dX9_goBoth_107 (by decide) ?_
                    refine lv_iload_n hx hb dX9_goBoth_110 rfl (lv_at hl 1 rfl) ?_
                    refine lv_imul hx hb dX9_goBoth_111 ?_
                    refine tpi (x' := nI (3721 * pt)) (pk_mul 3721 pt) ?_
                    refine lv_bipush (v := 61) hx hb dX9_goBoth_112 (by decide) ?_
                    refine lv_iload_n hx hb dX9_goBoth_114 rfl (lv_at hl 2 rfl) ?_
                    refine lv_iload hx hb dX9_goBoth_115 (lv_at hl 5 rfl) ?_
                    refine lv_isub hx hb dX9_goBoth_117 ?_
                    refine tpi (x' := nI (x - (k + 1))) (nI_sub k3) ?_
                    refine lv_imul hx hb dX9_goBoth_118 ?_
                    refine tpi (x' := nI (61 * (x - (k + 1)))) (pk_mul 61 _) ?_
                    refine lv_iadd hx hb dX9_goBoth_119 ?_
                    refine tpi (x' := nI (3721 * pt + 61 * (x - (k + 1)))) (nI_add _ _) ?_
                    refine lv_iload hx hb dX9_goBoth_120 (lv_at hl 3 rfl) ?_
                    refine lv_iadd hx hb dX9_goBoth_122 ?_
                    refine tpi (x' := nI (3721 * pt + 61 * (x - (k + 1)) + y)) (nI_add _ _) ?_
                    refine lv_iload hx hb dX9_goBoth_123 (lv_at hl 5 rfl) ?_
                    refine lv_isub hx hb dX9_goBoth_125 ?_
                    refine tpi (x' := nI (3721 * pt + 61 * (x - (k + 1)) + (y - (k + 1)))) (by rw [nI_sub (by omega)]; congr 1; omega) ?_
                    refine m_zaldN (k := 3721 * pt + 61 * (x - (k + 1)) + (y - (k + 1))) hx hb hK hM hwn (rfl) (by omega) (by decide) dX9_goBoth_126 ?_
                    refine tpi (x' := bI (!lsB 1 mi (x - (k + 1)) (y - (k + 1)))) (hup _ _ (by omega) (by omega) (Or.inl (by omega))) ?_
                    refine bz_ne (tgt := 134) hx hb dX9_goBoth_127 (by decide) (fun c_127 n_127 => ?_) (fun c_127 n_127 => ?_)
                    · skip
                      have l3 := bI_nn0 c_127
                      refine lv_iconst (v := 0) hx hb dX9_goBoth_134 (by decide) ?_
                      refine tpi (x' := bI false) (rfl) ?_
                      exact j_135 false _ (by rw [hcn]; unfold stB; first | (simp [k1, k2, l2, k3, k4, l3]; done) | omega) (lv_sub hl [0, 1, 2, 3, 4, 5] rfl)
                    · skip
                      have l3 := bI_n0 c_127
                      refine lv_iconst (v := 1) hx hb dX9_goBoth_130 (by decide) ?_
                      refine tpi (x' := bI true) (rfl) ?_
                      refine lv_goto (tgt := 135) hx hb dX9_goBoth_131 (by decide) ?_
                      exact j_135 true _ (by rw [hcn]; unfold stB; first | (simp [k1, k2, l2, k3, k4, l3]; done) | omega) (lv_sub hl [0, 1, 2, 3, 4, 5] rfl)
          · skip
            have k1 : k + 1 ≤ x := (nI_leI (by omega) (by omega)).mp c_32
            refine lv_aload_n hx hb dX9_goBoth_35 rfl (lv_at hl 0 rfl) ?_
            refine m_get (ci := 9) (C := RX9) (T := TX9) (N := 18) (v := v 3) hx hb hts in_X9 hown hK hM hR rfl 3 (by decide) fl_16 (fun _ h => h) rfl dX9_goBoth_36 ?_
            refine tpv (hv3) ?_
            refine lv_sipush (v := 3721) hx hb dX9_goBoth_39 (by decide) ?_
            refine lv_iload_n hx hb dX9_goBoth_42 rfl (lv_at hl 1 rfl) ?_
            refine lv_imul hx hb dX9_goBoth_43 ?_
            refine tpi (x' := nI (3721 * pt)) (pk_mul 3721 pt) ?_
            refine lv_bipush (v := 61) hx hb dX9_goBoth_44 (by decide) ?_
            refine lv_iload_n hx hb dX9_goBoth_46 rfl (lv_at hl 2 rfl) ?_
            refine lv_iload hx hb dX9_goBoth_47 (lv_at hl 5 rfl) ?_
            refine lv_isub hx hb dX9_goBoth_49 ?_
            refine tpi (x' := nI (x - (k + 1))) (nI_sub k1) ?_
            refine lv_imul hx hb dX9_goBoth_50 ?_
            refine tpi (x' := nI (61 * (x - (k + 1)))) (pk_mul 61 _) ?_
            refine lv_iadd hx hb dX9_goBoth_51 ?_
            refine tpi (x' := nI (3721 * pt + 61 * (x - (k + 1)))) (nI_add _ _) ?_
            refine lv_iload hx hb dX9_goBoth_52 (lv_at hl 3 rfl) ?_
            refine lv_iadd hx hb dX9_goBoth_54 ?_
            refine tpi (x' := nI (3721 * pt + 61 * (x - (k + 1)) + y)) (nI_add _ _) ?_
            refine m_zaldN (k := 3721 * pt + 61 * (x - (k + 1)) + y) hx hb hK hM hwn (rfl) (by omega) (by decide) dX9_goBoth_55 ?_
            refine tpi (x' := bI (!lsB 1 mi (x - (k + 1)) y)) (hup _ _ (by omega) hy0 (Or.inl (by omega))) ?_
            refine bz_eq (tgt := 130) hx hb dX9_goBoth_56 (by decide) (fun c_56 n_56 => ?_) (fun c_56 n_56 => ?_)
            · skip
              have l1 := bI_n0 c_56
              refine lv_iconst (v := 1) hx hb dX9_goBoth_130 (by decide) ?_
              refine tpi (x' := bI true) (rfl) ?_
              refine lv_goto (tgt := 135) hx hb dX9_goBoth_131 (by decide) ?_
              exact j_135 true _ (by rw [hcn]; unfold stB; first | (simp [k1, l1]; done) | omega) (lv_sub hl [0, 1, 2, 3, 4, 5] rfl)
            · skip
              have l1 := bI_nn0 c_56
              refine lv_iload hx hb dX9_goBoth_59 (lv_at hl 5 rfl) ?_
              refine lv_iload hx hb dX9_goBoth_61 (lv_at hl 3 rfl) ?_
              refine bi_gt (tgt := 90) hx hb dX9_goBoth_63 (by decide) (fun c_63 n_63 => ?_) (fun c_63 n_63 => ?_)
              · skip
                have k2 : ¬ k + 1 ≤ y := fun q => absurd ((nI_ltI (by omega) (by omega)).mp c_63) (by omega)
                refine lv_iload hx hb dX9_goBoth_90 (lv_at hl 5 rfl) ?_
                refine lv_iload_n hx hb dX9_goBoth_92 rfl (lv_at hl 2 rfl) ?_
                refine bi_gt (tgt := 134) hx hb dX9_goBoth_93 (by decide) (fun c_93 n_93 => ?_) (fun c_93 n_93 => ?_)
                · skip
                  have k3 : ¬ k + 1 ≤ x := fun q => absurd ((nI_ltI (by omega) (by omega)).mp c_93) (by omega)
                  refine lv_iconst (v := 0) hx hb dX9_goBoth_134 (by decide) ?_
                  refine tpi (x' := bI false) (rfl) ?_
                  exact j_135 false _ (by rw [hcn]; unfold stB; first | (simp [k1, l1, k2, k3]; done) | omega) (lv_sub hl [0, 1, 2, 3, 4, 5] rfl)
                · skip
                  have k3 : k + 1 ≤ x := (nI_leI (by omega) (by omega)).mp c_93
                  refine lv_iload hx hb dX9_goBoth_96 (lv_at hl 5 rfl) ?_
                  refine lv_iload hx hb dX9_goBoth_98 (lv_at hl 3 rfl) ?_
                  refine bi_gt (tgt := 134) hx hb dX9_goBoth_100 (by decide) (fun c_100 n_100 => ?_) (fun c_100 n_100 => ?_)
                  · skip
                    have k4 : ¬ k + 1 ≤ y := fun q => absurd ((nI_ltI (by omega) (by omega)).mp c_100) (by omega)
                    refine lv_iconst (v := 0) hx hb dX9_goBoth_134 (by decide) ?_
                    refine tpi (x' := bI false) (rfl) ?_
                    exact j_135 false _ (by rw [hcn]; unfold stB; first | (simp [k1, l1, k2, k3, k4]; done) | omega) (lv_sub hl [0, 1, 2, 3, 4, 5] rfl)
                  · skip
                    have k4 : k + 1 ≤ y := (nI_leI (by omega) (by omega)).mp c_100
                    refine lv_aload_n hx hb dX9_goBoth_103 rfl (lv_at hl 0 rfl) ?_
                    refine m_get (ci := 9) (C := RX9) (T := TX9) (N := 18) (v := v 3) hx hb hts in_X9 hown hK hM hR rfl 3 (by decide) fl_16 (fun _ h => h) rfl dX9_goBoth_104 ?_
                    refine tpv (hv3) ?_
                    refine lv_sipush (v := 3721) hx hb dX9_goBoth_107 (by decide) ?_
                    refine lv_iload_n hx hb dX9_goBoth_110 rfl (lv_at hl 1 rfl) ?_
                    refine lv_imul hx hb dX9_goBoth_111 ?_
                    refine tpi (x' := nI (3721 * pt)) (pk_mul 3721 pt) ?_
                    refine lv_bipush (v := 61) hx hb dX9_goBoth_112 (by decide) ?_
                    refine lv_iload_n hx hb dX9_goBoth_114 rfl (lv_at hl 2 rfl) ?_
                    refine lv_iload hx hb dX9_goBoth_115 (lv_at hl 5 rfl) ?_
                    refine lv_isub hx hb dX9_goBoth_117 ?_
                    refine tpi (x' := nI (x - (k + 1))) (nI_sub k3) ?_
                    refine lv_imul hx hb dX9_goBoth_118 ?_
                    refine tpi (x' := nI (61 * (x - (k + 1)))) (pk_mul 61 _) ?_
                    refine lv_iadd hx hb dX9_goBoth_119 ?_
                    refine tpi (x' := nI (3721 * pt + 61 * (x - (k + 1)))) (nI_add _ _) ?_
                    refine lv_iload hx hb dX9_goBoth_120 (lv_at hl 3 rfl) ?_
                    refine lv_iadd hx hb dX9_goBoth_122 ?_
                    refine tpi (x' := nI (3721 * pt + 61 * (x - (k + 1)) + y)) (nI_add _ _) ?_
                    refine lv_iload hx hb dX9_goBoth_123 (lv_at hl 5 rfl) ?_
                    refine lv_isub hx hb dX9_goBoth_125 ?_
                    refine tpi (x' := nI (3721 * pt + 61 * (x - (k + 1)) + (y - (k + 1)))) (by rw [nI_sub (by omega)]; congr 1; omega) ?_
                    refine m_zaldN (k := 3721 * pt + 61 * (x - (k + 1)) + (y - (k + 1))) hx hb hK hM hwn (rfl) (by omega) (by decide) dX9_goBoth_126 ?_
                    refine tpi (x' := bI (!lsB 1 mi (x - (k + 1)) (y - (k + 1)))) (hup _ _ (by omega) (by omega) (Or.inl (by omega))) ?_
                    refine bz_ne (tgt := 134) hx hb dX9_goBoth_127 (by decide) (fun c_127 n_127 => ?_) (fun c_127 n_127 => ?_)
                    · skip
                      have l3 := bI_nn0 c_127
                      refine lv_iconst (v := 0) hx hb dX9_goBoth_134 (by decide) ?_
                      refine tpi (x' := bI false) (rfl) ?_
                      exact j_135 false _ (by rw [hcn]; unfold stB; first | (simp [k1, l1, k2, k3, k4, l3]; done) | omega) (lv_sub hl [0, 1, 2, 3, 4, 5] rfl)
                    · skip
                      have l3 := bI_n0 c_127
                      refine lv_iconst (v := 1) hx hb dX9_goBoth_130 (by decide) ?_
                      refine tpi (x' := bI true) (rfl) ?_
                      refine lv_goto (tgt := 135) hx hb dX9_goBoth_131 (by decide) ?_
                      exact j_135 true _ (by rw [hcn]; unfold stB; first | (simp [k1, l1, k2, k3, k4, l3]; done) | omega) (lv_sub hl [0, 1, 2, 3, 4, 5] rfl)
              · skip
                have k2 : k + 1 ≤ y := (nI_leI (by omega) (by omega)).mp c_63
                refine lv_aload_n hx hb dX9_goBoth_66 rfl (lv_at hl 0 rfl) ?_
                refine m_get (ci := 9) (C := RX9) (T := TX9) (N := 18) (v := v 3) hx hb hts in_X9 hown hK hM hR rfl 3 (by decide) fl_16 (fun _ h => h) rfl dX9_goBoth_67 ?_
                refine tpv (hv3) ?_
                refine lv_sipush (v := 3721) hx hb dX9_goBoth_70 (by decide) ?_
                refine lv_iload_n hx hb dX9_goBoth_73 rfl (lv_at hl 1 rfl) ?_
                refine lv_imul hx hb dX9_goBoth_74 ?_
                refine tpi (x' := nI (3721 * pt)) (pk_mul 3721 pt) ?_
                refine lv_bipush (v := 61) hx hb dX9_goBoth_75 (by decide) ?_
                refine lv_iload_n hx hb dX9_goBoth_77 rfl (lv_at hl 2 rfl) ?_
                refine lv_imul hx hb dX9_goBoth_78 ?_
                refine tpi (x' := nI (61 * x)) (pk_mul 61 _) ?_
                refine lv_iadd hx hb dX9_goBoth_79 ?_
                refine tpi (x' := nI (3721 * pt + 61 * x)) (nI_add _ _) ?_
                refine lv_iload hx hb dX9_goBoth_80 (lv_at hl 3 rfl) ?_
                refine lv_iadd hx hb dX9_goBoth_82 ?_
                refine tpi (x' := nI (3721 * pt + 61 * x + y)) (nI_add _ _) ?_
                refine lv_iload hx hb dX9_goBoth_83 (lv_at hl 5 rfl) ?_
                refine lv_isub hx hb dX9_goBoth_85 ?_
                refine tpi (x' := nI (3721 * pt + 61 * x + (y - (k + 1)))) (by rw [nI_sub (by omega)]; congr 1; omega) ?_
                refine m_zaldN (k := 3721 * pt + 61 * x + (y - (k + 1))) hx hb hK hM hwn (rfl) (by omega) (by decide) dX9_goBoth_86 ?_
                refine tpi (x' := bI (!lsB 1 mi x (y - (k + 1)))) (hup _ _ hx0 (by omega) (Or.inr ⟨rfl, by omega⟩)) ?_
                refine bz_eq (tgt := 130) hx hb dX9_goBoth_87 (by decide) (fun c_87 n_87 => ?_) (fun c_87 n_87 => ?_)
                · skip
                  have l2 := bI_n0 c_87
                  refine lv_iconst (v := 1) hx hb dX9_goBoth_130 (by decide) ?_
                  refine tpi (x' := bI true) (rfl) ?_
                  refine lv_goto (tgt := 135) hx hb dX9_goBoth_131 (by decide) ?_
                  exact j_135 true _ (by rw [hcn]; unfold stB; first | (simp [k1, l1, k2, l2]; done) | omega) (lv_sub hl [0, 1, 2, 3, 4, 5] rfl)
                · skip
                  have l2 := bI_nn0 c_87
                  refine lv_iload hx hb dX9_goBoth_90 (lv_at hl 5 rfl) ?_
                  refine lv_iload_n hx hb dX9_goBoth_92 rfl (lv_at hl 2 rfl) ?_
                  refine bi_gt (tgt := 134) hx hb dX9_goBoth_93 (by decide) (fun c_93 n_93 => ?_) (fun c_93 n_93 => ?_)
                  · skip
                    have k3 : ¬ k + 1 ≤ x := fun q => absurd ((nI_ltI (by omega) (by omega)).mp c_93) (by omega)
                    refine lv_iconst (v := 0) hx hb dX9_goBoth_134 (by decide) ?_
                    refine tpi (x' := bI false) (rfl) ?_
                    exact j_135 false _ (by rw [hcn]; unfold stB; first | (simp [k1, l1, k2, l2, k3]; done) | omega) (lv_sub hl [0, 1, 2, 3, 4, 5] rfl)
                  · skip
                    have k3 : k + 1 ≤ x := (nI_leI (by omega) (by omega)).mp c_93
                    refine lv_iload hx hb dX9_goBoth_96 (lv_at hl 5 rfl) ?_
                    refine lv_iload hx hb dX9_goBoth_98 (lv_at hl 3 rfl) ?_
                    refine bi_gt (tgt := 134) hx hb dX9_goBoth_100 (by decide) (fun c_100 n_100 => ?_) (fun c_100 n_100 => ?_)
                    · skip
                      have k4 : ¬ k + 1 ≤ y := fun q => absurd ((nI_ltI (by omega) (by omega)).mp c_100) (by omega)
                      refine lv_iconst (v := 0) hx hb dX9_goBoth_134 (by decide) ?_
                      refine tpi (x' := bI false) (rfl) ?_
                      exact j_135 false _ (by rw [hcn]; unfold stB; first | (simp [k1, l1, k2, l2, k3, k4]; done) | omega) (lv_sub hl [0, 1, 2, 3, 4, 5] rfl)
                    · skip
                      have k4 : k + 1 ≤ y := (nI_leI (by omega) (by omega)).mp c_100
                      refine lv_aload_n hx hb dX9_goBoth_103 rfl (lv_at hl 0 rfl) ?_
                      refine m_get (ci := 9) (C := RX9) (T := TX9) (N := 18) (v := v 3) hx hb hts in_X9 hown hK hM hR rfl 3 (by decide) fl_16 (fun _ h => h) rfl dX9_goBoth_104 ?_
                      refine tpv (hv3) ?_
                      refine lv_sipush (v := 3721) hx hb dX9_goBoth_107 (by decide) ?_
                      refine lv_iload_n hx hb dX9_goBoth_110 rfl (lv_at hl 1 rfl) ?_
                      refine lv_imul hx hb dX9_goBoth_111 ?_
                      refine tpi (x' := nI (3721 * pt)) (pk_mul 3721 pt) ?_
                      refine lv_bipush (v := 61) hx hb dX9_goBoth_112 (by decide) ?_
                      refine lv_iload_n hx hb dX9_goBoth_114 rfl (lv_at hl 2 rfl) ?_
                      refine lv_iload hx hb dX9_goBoth_115 (lv_at hl 5 rfl) ?_
                      refine lv_isub hx hb dX9_goBoth_117 ?_
                      refine tpi (x' := nI (x - (k + 1))) (nI_sub k3) ?_
                      refine lv_imul hx hb dX9_goBoth_118 ?_
                      refine tpi (x' := nI (61 * (x - (k + 1)))) (pk_mul 61 _) ?_
                      refine lv_iadd hx hb dX9_goBoth_119 ?_
                      refine tpi (x' := nI (3721 * pt + 61 * (x - (k + 1)))) (nI_add _ _) ?_
                      refine lv_iload hx hb dX9_goBoth_120 (lv_at hl 3 rfl) ?_
                      refine lv_iadd hx hb dX9_goBoth_122 ?_
                      refine tpi (x' := nI (3721 * pt + 61 * (x - (k + 1)) + y)) (nI_add _ _) ?_
                      refine lv_iload hx hb dX9_goBoth_123 (lv_at hl 5 rfl) ?_
                      refine lv_isub hx hb dX9_goBoth_125 ?_
                      refine tpi (x' := nI (3721 * pt + 61 * (x - (k + 1)) + (y - (k + 1)))) (by rw [nI_sub (by omega)]; congr 1; omega) ?_
                      refine m_zaldN (k := 3721 * pt + 61 * (x - (k + 1)) + (y - (k + 1))) hx hb hK hM hwn (rfl) (by omega) (by decide) dX9_goBoth_126 ?_
                      refine tpi (x' := bI (!lsB 1 mi (x - (k + 1)) (y - (k + 1)))) (hup _ _ (by omega) (by omega) (Or.inl (by omega))) ?_
                      refine bz_ne (tgt := 134) hx hb dX9_goBoth_127 (by decide) (fun c_127 n_127 => ?_) (fun c_127 n_127 => ?_)
                      · skip
                        have l3 := bI_nn0 c_127
                        refine lv_iconst (v := 0) hx hb dX9_goBoth_134 (by decide) ?_
                        refine tpi (x' := bI false) (rfl) ?_
                        exact j_135 false _ (by rw [hcn]; unfold stB; first | (simp [k1, l1, k2, l2, k3, k4, l3]; done) | omega) (lv_sub hl [0, 1, 2, 3, 4, 5] rfl)
                      · skip
                        have l3 := bI_n0 c_127
                        refine lv_iconst (v := 1) hx hb dX9_goBoth_130 (by decide) ?_
                        refine tpi (x' := bI true) (rfl) ?_
                        refine lv_goto (tgt := 135) hx hb dX9_goBoth_131 (by decide) ?_
                        exact j_135 true _ (by rw [hcn]; unfold stB; first | (simp [k1, l1, k2, l2, k3, k4, l3]; done) | omega) (lv_sub hl [0, 1, 2, 3, 4, 5] rfl)
  refine lv_iload_n hx hb dX9_goBoth_0 rfl (lv_at hl 3 rfl) ?_
  refine bz_ne (tgt := 11) hx hb dX9_goBoth_1 (by decide) (fun c_1 n_1 => ?_) (fun c_1 n_1 => ?_)
  · skip
    have e0 : ¬ x = 0 := fun z => c_1 (by rw [z]; rfl)
    refine lv_iconst (v := 0) hx hb dX9_goBoth_11 (by decide) ?_
    refine tpi (x' := bI (anB (stB mi x y) 0)) (rfl) ?_
    refine lv_istore (lv' := [(5, .int (bI (anB (stB mi x y) 0))), (0, .ref m0), (1, .int (nI pt)), (2, .int (bI mi)), (3, .int (nI x)), (4, .int (nI y))]) hx hb dX9_goBoth_12 hl (by decide) rfl (fun ls hl => ?_)
    refine lv_iconst (v := 1) hx hb dX9_goBoth_14 (by decide) ?_
    refine tpi (x' := nI (0 + 1)) (rfl) ?_
    refine lv_istore (lv' := [(6, .int (nI (0 + 1))), (5, .int (bI (anB (stB mi x y) 0))), (0, .ref m0), (1, .int (nI pt)), (2, .int (bI mi)), (3, .int (nI x)), (4, .int (nI y))]) hx hb dX9_goBoth_15 hl (by decide) rfl (fun ls hl => ?_)
    exact j_17 (61) 0 _ (Nat.zero_le _) (fun z => e0 z.1) (by omega) (lv_sub hl [2, 3, 5, 6, 1, 0] rfl)
  · skip
    have e0 : x = 0 := (nI_eq (b := 0) (by omega) (by decide)).mp c_1
    refine lv_iload hx hb dX9_goBoth_4 (lv_at hl 4 rfl) ?_
    refine bz_ne (tgt := 11) hx hb dX9_goBoth_6 (by decide) (fun c_6 n_6 => ?_) (fun c_6 n_6 => ?_)
    · skip
      have e1 : ¬ y = 0 := fun z => c_6 (by rw [z]; rfl)
      refine lv_iconst (v := 0) hx hb dX9_goBoth_11 (by decide) ?_
      refine tpi (x' := bI (anB (stB mi x y) 0)) (rfl) ?_
      refine lv_istore (lv' := [(5, .int (bI (anB (stB mi x y) 0))), (0, .ref m0), (1, .int (nI pt)), (2, .int (bI mi)), (3, .int (nI x)), (4, .int (nI y))]) hx hb dX9_goBoth_12 hl (by decide) rfl (fun ls hl => ?_)
      refine lv_iconst (v := 1) hx hb dX9_goBoth_14 (by decide) ?_
      refine tpi (x' := nI (0 + 1)) (rfl) ?_
      refine lv_istore (lv' := [(6, .int (nI (0 + 1))), (5, .int (bI (anB (stB mi x y) 0))), (0, .ref m0), (1, .int (nI pt)), (2, .int (bI mi)), (3, .int (nI x)), (4, .int (nI y))]) hx hb dX9_goBoth_15 hl (by decide) rfl (fun ls hl => ?_)
      exact j_17 (61) 0 _ (Nat.zero_le _) (fun z => e1 z.2) (by omega) (lv_sub hl [2, 3, 5, 6, 1, 0] rfl)
    · skip
      have e1 : y = 0 := (nI_eq (b := 0) (by omega) (by decide)).mp c_6
      refine lv_iload_n hx hb dX9_goBoth_9 rfl (lv_at hl 2 rfl) ?_
      exact hret _ _ _ dX9_goBoth_10 (by rw [← hok, if_pos ⟨e0, e1⟩])
theorem k_X9_goS (l : Launch) (D : va_G) (cA : Nat → ClassId) (M : mp) (m0 : Nat) (v : Nat → Value) (wn : Nat) (fw : Nat → Int32) (pt : Nat) (mi : Bool) (x y : Nat) (g : Nat) (hq : g = 0) (hR : M m0 = some (.inr (9, rL v))) (hv3 : v 3 = .ref wn) (hwn : M wn = some (.inl (cA 2, 14884, .inl fw))) (hpt : pt ≤ 3) (hx0 : x ≤ 60) (hy0 : y ≤ 60) (hup : upTo g mi pt x y fw)  : PC l D cA yX9_goShares wsX9_goShares 0 0 [.ref m0, .int (nI pt), .int (bI mi), .int (nI x), .int (nI y)] M (some (.int (bI (!lsB g mi x y)))) := by
  subst hq
  exact k_X9_goShares l D cA M m0 v wn fw pt mi x y hR hv3 hwn hpt hx0 hy0 hup
theorem k_X9_goB (l : Launch) (D : va_G) (cA : Nat → ClassId) (M : mp) (m0 : Nat) (v : Nat → Value) (wn : Nat) (fw : Nat → Int32) (pt : Nat) (mi : Bool) (x y : Nat) (g : Nat) (hq : g = 1) (hR : M m0 = some (.inr (9, rL v))) (hv3 : v 3 = .ref wn) (hwn : M wn = some (.inl (cA 2, 14884, .inl fw))) (hpt : pt ≤ 3) (hx0 : x ≤ 60) (hy0 : y ≤ 60) (hup : upTo g mi pt x y fw)  : PC l D cA yX9_goBoth wsX9_goBoth 0 0 [.ref m0, .int (nI pt), .int (bI mi), .int (nI x), .int (nI y)] M (some (.int (bI (!lsB g mi x y)))) := by
  subst hq
  exact k_X9_goBoth l D cA M m0 v wn fw pt mi x y hR hv3 hwn hpt hx0 hy0 hup
set_option maxHeartbeats 1000000 in
set_option maxRecDepth 100000 in
theorem k_X9_wonAt (l : Launch) (D : va_G) (cA : Nat → ClassId) (M : mp) (m0 : Nat) (v : Nat → Value) (wn ov : Nat) (fw fo : Nat → Int32) (g : Nat) (mi : Bool) (a b : Nat)  (hR : M m0 = some (.inr (9, rL v))) (hv3 : v 3 = .ref wn) (hv4 : v 4 = .ref ov) (hwn : M wn = some (.inl (cA 2, 14884, .inl fw))) (hov : M ov = some (.inl (cA 2, 4, .inl fo))) (hT : t2W fw fo) (hg1 : g ≤ 1) (ha : a ≤ 60) (hb0 : b ≤ 60)  : MC l D cA yX9_wonAt wsX9_wonAt 1 26 0 0 [.ref m0, .int (nI g), .int (bI mi), .int (nI a), .int (nI b)] M (fun r M' => r = some (.int (bI (!lsB g mi a b))) ∧ (∃ fw' fo', M' wn = some (.inl (cA 2, 14884, .inl fw')) ∧ M' ov = some (.inl (cA 2, 4, .inl fo')) ∧ t2W fw' fo') ∧ kpL M M' [wn, ov]) := by
  refine MC.of (cc := cX9_wonAt) (maxL := 8) (ret := (some .boolean)) (by decide) rfl (Nat.le_of_ble_eq_true rfl) ?_
  intro p e s m args below meth c Q ls B hh hl hretv hreti hretz hretl hreta
  obtain ⟨hx, hb, hown, hts, hml, hK, hin⟩ := B
  have hM := hh.1
  have hM_0 := hh.1
  have hkp : kpL M M [wn, ov] := kpL.rf M _
  have hown : s.vm.findClass RX9 = some m.cls := hown
  have hl : lv_has ls 8 [(0, .ref m0), (1, .int (nI g)), (2, .int (bI mi)), (3, .int (nI a)), (4, .int (nI b))] := hl
  have in_X9 : ∀ w ∈ wsX90, w ∈ wsX9_wonAt := by decide +kernel
  have fl_20 := hts (.fieldLink RX9 20 "GoldHeapsModel" "isOver" "[Z") (by decide +kernel)
  have fl_16 := hts (.fieldLink RX9 16 "GoldHeapsModel" "won" "[Z") (by decide +kernel)
  have hbn : bN mi ≤ 1 := by cases mi <;> decide
  refine lv_iconst (v := 2) hx hb dX9_wonAt_0 (by decide) ?_
  refine lv_iload_n hx hb dX9_wonAt_1 rfl (lv_at hl 1 rfl) ?_
  refine lv_imul hx hb dX9_wonAt_2 ?_
  refine tpi (x' := nI (2 * g)) (pk_mul 2 g) ?_
  refine lv_iload_n hx hb dX9_wonAt_3 rfl (lv_at hl 2 rfl) ?_
  refine bz_eq (tgt := 11) hx hb dX9_wonAt_4 (by decide) (fun c_4 n_4 => ?_) (fun c_4 n_4 => ?_)
  · skip
    have qm := bI_eq0 c_4
    refine lv_iconst (v := 0) hx hb dX9_wonAt_11 (by decide) ?_
    refine lv_iadd hx hb dX9_wonAt_12 ?_
    refine tpi (x' := nI (2 * g + bN mi)) (by rw [qm]; exact nI_add _ _) ?_
    refine lv_istore (lv' := [(5, .int (nI (2 * g + bN mi))), (0, .ref m0), (1, .int (nI g)), (2, .int (bI mi)), (3, .int (nI a)), (4, .int (nI b))]) hx hb dX9_wonAt_13 hl (by decide) rfl (fun ls hl => ?_)
    refine lv_aload_n hx hb dX9_wonAt_15 rfl (lv_at hl 1 rfl) ?_
    refine m_get (ci := 9) (C := RX9) (T := TX9) (N := 18) (v := v 4) hx hb hts in_X9 hown hK hM hR rfl 4 (by decide) fl_20 (fun _ h => h) rfl dX9_wonAt_16 ?_
    refine tpv (hv4) ?_
    refine lv_iload hx hb dX9_wonAt_19 (lv_at hl 0 rfl) ?_
    refine m_zaldN (k := 2 * g + bN mi) hx hb hK hM hov (rfl) (by omega) (by decide) dX9_wonAt_21 ?_
    refine bz_ne (tgt := 114) hx hb dX9_wonAt_22 (by decide) (fun c_22 n_22 => ?_) (fun c_22 n_22 => ?_)
    · skip
      have hdone := hT g mi hg1 c_22
      have hval : fw (3721 * (2 * g + bN mi) + 61 * a + b) = bI (!lsB g mi a b) := hdone a b ha hb0
      refine lv_aload_n hx hb dX9_wonAt_114 rfl (lv_at hl 1 rfl) ?_
      refine m_get (ci := 9) (C := RX9) (T := TX9) (N := 18) (v := v 3) hx hb hts in_X9 hown hK hM hR rfl 3 (by decide) fl_16 (fun _ h => h) rfl dX9_wonAt_115 ?_
      refine tpv (hv3) ?_
      refine lv_sipush (v := 3721) hx hb dX9_wonAt_118 (by decide) ?_
      refine lv_iload hx hb dX9_wonAt_121 (lv_at hl 0 rfl) ?_
      refine lv_imul hx hb dX9_wonAt_123 ?_
      refine tpi (x' := nI (3721 * (2 * g + bN mi))) (pk_mul 3721 _) ?_
      refine lv_bipush (v := 61) hx hb dX9_wonAt_124 (by decide) ?_
      refine lv_iload_n hx hb dX9_wonAt_126 rfl (lv_at hl 4 rfl) ?_
      refine lv_imul hx hb dX9_wonAt_127 ?_
      refine tpi (x' := nI (61 * a)) (pk_mul 61 _) ?_
      refine lv_iadd hx hb dX9_wonAt_128 ?_
      refine tpi (x' := nI (3721 * (2 * g + bN mi) + 61 * a)) (nI_add _ _) ?_
      refine lv_iload hx hb dX9_wonAt_129 (lv_at hl 5 rfl) ?_
      refine lv_iadd hx hb dX9_wonAt_131 ?_
      refine tpi (x' := nI (3721 * (2 * g + bN mi) + 61 * a + b)) (nI_add _ _) ?_
      refine m_zaldN (k := 3721 * (2 * g + bN mi) + 61 * a + b) hx hb hK hM hwn (rfl) (by omega) (by decide) dX9_wonAt_132 ?_
      refine tpi (x' := bI (!lsB g mi a b)) (hval) ?_
      exact hretz _ _ _ _ _ _ _ _ (!lsB g mi a b) hh (rfl) (⟨rfl, ⟨_, _, hwn, hov, hT⟩, hkp⟩) (by decide) (by decide) dX9_wonAt_133 rfl
    · skip
      have hz : fo (2 * g + bN mi) = 0 := c_22
      refine lv_aload_n hx hb dX9_wonAt_25 rfl (lv_at hl 1 rfl) ?_
      refine m_get (ci := 9) (C := RX9) (T := TX9) (N := 18) (v := v 4) hx hb hts in_X9 hown hK hM hR rfl 4 (by decide) fl_20 (fun _ h => h) rfl dX9_wonAt_26 ?_
      refine tpv (hv4) ?_
      refine lv_iload hx hb dX9_wonAt_29 (lv_at hl 0 rfl) ?_
      refine lv_iconst (v := 1) hx hb dX9_wonAt_31 (by decide) ?_
      refine m_zastN (k := 2 * g + bN mi) hx hb hK hh hov (Or.inr rfl) (rfl) (by omega) (by decide) dX9_wonAt_32 (fun M1 H1 locs1 e1 hh => ?_)
      have hR := mu_kp e1 (mp_ne hR hov (by simp)) hR
      have hwn := mu_kp e1 (mp_ne hwn hov (by simp)) hwn
      have hov := mu_at e1
      have hkp := hkp.put e1 (by simp)
      have hov : M1 ov = some (.inl (cA 2, 4, .inl (upd fo (2 * g + bN mi) 1))) := hov
      have hM := hh.1
      refine lv_iconst (v := 0) hx hb dX9_wonAt_33 (by decide) ?_
      refine tpi (x' := nI 0) (rfl) ?_
      refine lv_istore (lv' := [(6, .int (nI 0)), (5, .int (nI (2 * g + bN mi))), (0, .ref m0), (1, .int (nI g)), (2, .int (bI mi)), (3, .int (nI a)), (4, .int (nI b))]) hx hb dX9_wonAt_34 hl (by decide) rfl (fun ls hl => ?_)
      have j_36 : ∀ (fu : Nat) (x : Nat) (f : Nat → Int32) (M1 : mp) (H : Heap) (locs : List Loc) (ls : Array Slot), (x ≤ 61) → (upTo g mi (2 * g + bN mi) x 0 f) → (∀ i, i < 3721 * (2 * g + bN mi) ∨ 3721 * (2 * g + bN mi) + 3721 ≤ i → f i = fw i) → (hw D M s.heap M1 H locs) → (kpL M M1 [wn, ov]) → (M1 m0 = some (.inr (9, rL v))) → (M1 wn = some (.inl (cA 2, 14884, .inl f))) → (M1 ov = some (.inl (cA 2, 4, .inl (upd fo (2 * g + bN mi) 1)))) → (61 - x < fu) → lv_has ls 8 [(0, .ref m0), (1, .int (nI g)), (2, .int (bI mi)), (3, .int (nI a)), (4, .int (nI b)), (5, .int (nI (2 * g + bN mi))), (6, .int (nI x))] → W p l e ({ frames := 1, cells := 0, slots := 0, locals := 26 } : Room) s m args below meth c H locs 0 0 Q (F0 m 36 ls []) := by
        intro fu
        induction fu with
        | zero => intro x f M1 H locs ls hx1 hup hot hh hkp hR hwn hov hm_36 _; exact absurd hm_36 (Nat.not_lt_zero _)
        | succ fu ih_36 =>
          intro x f M1 H locs ls hx1 hup hot hh hkp hR hwn hov hm_36 hl
          have hM := hh.1
          refine lv_iload hx hb dX9_wonAt_36 (lv_at hl 6 rfl) ?_
          refine lv_bipush (v := 60) hx hb dX9_wonAt_38 (by decide) ?_
          refine bi_gt (tgt := 114) hx hb dX9_wonAt_40 (by decide) (fun c_40 n_40 => ?_) (fun c_40 n_40 => ?_)
          · skip
            have h6 : 60 < x := (nI_ltI (a := 60) (by decide) (by omega)).mp c_40
            have hval : f (3721 * (2 * g + bN mi) + 61 * a + b) = bI (!lsB g mi a b) := hup a b ha hb0 (Or.inl (by omega))
            refine lv_aload_n hx hb dX9_wonAt_114 rfl (lv_at hl 0 rfl) ?_
            refine m_get (ci := 9) (C := RX9) (T := TX9) (N := 18) (v := v 3) hx hb hts in_X9 hown hK hM hR rfl 3 (by decide) fl_16 (fun _ h => h) rfl dX9_wonAt_115 ?_
            refine tpv (hv3) ?_
            refine lv_sipush (v := 3721) hx hb dX9_wonAt_118 (by decide) ?_
            refine lv_iload hx hb dX9_wonAt_121 (lv_at hl 5 rfl) ?_
            refine lv_imul hx hb dX9_wonAt_123 ?_
            refine tpi (x' := nI (3721 * (2 * g + bN mi))) (pk_mul 3721 _) ?_
            refine lv_bipush (v := 61) hx hb dX9_wonAt_124 (by decide) ?_
            refine lv_iload_n hx hb dX9_wonAt_126 rfl (lv_at hl 3 rfl) ?_
            refine lv_imul hx hb dX9_wonAt_127 ?_
            refine tpi (x' := nI (61 * a)) (pk_mul 61 _) ?_
            refine lv_iadd hx hb dX9_wonAt_128 ?_
            refine tpi (x' := nI (3721 * (2 * g + bN mi) + 61 * a)) (nI_add _ _) ?_
            refine lv_iload hx hb dX9_wonAt_129 (lv_at hl 4 rfl) ?_
            refine lv_iadd hx hb dX9_wonAt_131 ?_
            refine tpi (x' := nI (3721 * (2 * g + bN mi) + 61 * a + b)) (nI_add _ _) ?_
            refine m_zaldN (k := 3721 * (2 * g + bN mi) + 61 * a + b) hx hb hK hM hwn (rfl) (by omega) (by decide) dX9_wonAt_132 ?_
            refine tpi (x' := bI (!lsB g mi a b)) (hval) ?_
            exact hretz _ _ _ _ _ _ _ _ (!lsB g mi a b) hh (rfl) (⟨rfl, ⟨_, _, hwn, hov, hT.done hg1 (fun x1 y1 q1 q2 => hup x1 y1 q1 q2 (Or.inl (by omega))) hot⟩, hkp⟩) (by decide) (by decide) dX9_wonAt_133 rfl
          · skip
            have h6 : x ≤ 60 := (nI_leI (b := 60) (by omega) (by decide)).mp c_40
            refine lv_iconst (v := 0) hx hb dX9_wonAt_43 (by decide) ?_
            refine tpi (x' := nI 0) (rfl) ?_
            refine lv_istore (lv' := [(7, .int (nI 0)), (0, .ref m0), (1, .int (nI g)), (2, .int (bI mi)), (3, .int (nI a)), (4, .int (nI b)), (5, .int (nI (2 * g + bN mi))), (6, .int (nI x))]) hx hb dX9_wonAt_44 hl (by decide) rfl (fun ls hl => ?_)
            have j_46 : ∀ (fu : Nat) (y : Nat) (f : Nat → Int32) (M1 : mp) (H : Heap) (locs : List Loc) (ls : Array Slot), (y ≤ 61) → (upTo g mi (2 * g + bN mi) x y f) → (∀ i, i < 3721 * (2 * g + bN mi) ∨ 3721 * (2 * g + bN mi) + 3721 ≤ i → f i = fw i) → (hw D M s.heap M1 H locs) → (kpL M M1 [wn, ov]) → (M1 m0 = some (.inr (9, rL v))) → (M1 wn = some (.inl (cA 2, 14884, .inl f))) → (M1 ov = some (.inl (cA 2, 4, .inl (upd fo (2 * g + bN mi) 1)))) → (61 - y < fu) → lv_has ls 8 [(0, .ref m0), (1, .int (nI g)), (2, .int (bI mi)), (3, .int (nI a)), (4, .int (nI b)), (5, .int (nI (2 * g + bN mi))), (6, .int (nI x)), (7, .int (nI y))] → W p l e ({ frames := 1, cells := 0, slots := 0, locals := 26 } : Room) s m args below meth c H locs 0 0 Q (F0 m 46 ls []) := by
              intro fu
              induction fu with
              | zero => intro y f M1 H locs ls hy1 hup hot hh hkp hR hwn hov hm_46 _; exact absurd hm_46 (Nat.not_lt_zero _)
              | succ fu ih_46 =>
                intro y f M1 H locs ls hy1 hup hot hh hkp hR hwn hov hm_46 hl
                have hM := hh.1
                refine lv_iload hx hb dX9_wonAt_46 (lv_at hl 7 rfl) ?_
                refine lv_bipush (v := 60) hx hb dX9_wonAt_48 (by decide) ?_
                refine bi_gt (tgt := 108) hx hb dX9_wonAt_50 (by decide) (fun c_50 n_50 => ?_) (fun c_50 n_50 => ?_)
                · skip
                  have h7 : 60 < y := (nI_ltI (a := 60) (by decide) (by omega)).mp c_50
                  refine lv_iinc (v := nI (x + 1)) (lv' := [(6, .int (nI (x + 1))), (0, .ref m0), (1, .int (nI g)), (2, .int (bI mi)), (3, .int (nI a)), (4, .int (nI b)), (5, .int (nI (2 * g + bN mi))), (7, .int (nI y))]) hx hb dX9_wonAt_108 hl (k := 6) rfl (nI_up x) (by decide) rfl (fun ls hl => ?_)
                  refine lv_goto (tgt := 36) hx hb dX9_wonAt_111 (by decide) ?_
                  exact ih_36 (x + 1) f _ _ _ _ (by omega) (hup.row (by omega)) hot hh hkp hR hwn hov (by omega) (lv_sub hl [1, 2, 3, 4, 5, 6, 0] rfl)
                · skip
                  have h7 : y ≤ 60 := (nI_leI (b := 60) (by omega) (by decide)).mp c_50
                  refine lv_aload_n hx hb dX9_wonAt_53 rfl (lv_at hl 0 rfl) ?_
                  refine m_get (ci := 9) (C := RX9) (T := TX9) (N := 18) (v := v 3) hx hb hts in_X9 hown hK hM hR rfl 3 (by decide) fl_16 (fun _ h => h) rfl dX9_wonAt_54 ?_
                  refine tpv (hv3) ?_
                  refine lv_sipush (v := 3721) hx hb dX9_wonAt_57 (by decide) ?_
                  refine lv_iload hx hb dX9_wonAt_60 (lv_at hl 5 rfl) ?_
                  refine lv_imul hx hb dX9_wonAt_62 ?_
                  refine tpi (x' := nI (3721 * (2 * g + bN mi))) (pk_mul 3721 _) ?_
                  refine lv_bipush (v := 61) hx hb dX9_wonAt_63 (by decide) ?_
                  refine lv_iload hx hb dX9_wonAt_65 (lv_at hl 6 rfl) ?_
                  refine lv_imul hx hb dX9_wonAt_67 ?_
                  refine tpi (x' := nI (61 * x)) (pk_mul 61 _) ?_
                  refine lv_iadd hx hb dX9_wonAt_68 ?_
                  refine tpi (x' := nI (3721 * (2 * g + bN mi) + 61 * x)) (nI_add _ _) ?_
                  refine lv_iload hx hb dX9_wonAt_69 (lv_at hl 7 rfl) ?_
                  refine lv_iadd hx hb dX9_wonAt_71 ?_
                  refine tpi (x' := nI (3721 * (2 * g + bN mi) + 61 * x + y)) (nI_add _ _) ?_
                  refine lv_iload_n hx hb dX9_wonAt_72 rfl (lv_at hl 1 rfl) ?_
                  refine bz_ne (tgt := 90) hx hb dX9_wonAt_73 (by decide) (fun c_73 n_73 => ?_) (fun c_73 n_73 => ?_)
                  · skip
                    have q1 : g = 1 := by have : ¬ g = 0 := fun z => c_73 (by rw [z]; rfl); omega
                    refine lv_aload_n hx hb dX9_wonAt_90 rfl (lv_at hl 0 rfl) ?_
                    refine lv_iload hx hb dX9_wonAt_91 (lv_at hl 5 rfl) ?_
                    refine lv_iload_n hx hb dX9_wonAt_93 rfl (lv_at hl 2 rfl) ?_
                    refine lv_iload hx hb dX9_wonAt_94 (lv_at hl 6 rfl) ?_
                    refine lv_iload hx hb dX9_wonAt_96 (lv_at hl 7 rfl) ?_
                    refine cpV (As := [.int (nI (2 * g + bN mi)), .int (bI mi), .int (nI x), .int (nI y)]) (rest := [.int (nI (3721 * (2 * g + bN mi) + 61 * x + y)), .ref wn]) (k_X9_goB l D cA _ m0 v wn f (2 * g + bN mi) mi x y g q1 hR hv3 hwn (by omega) (by omega) (by omega) hup) ⟨hx, hb, hml, hown, hts⟩ (cwV 4 hts gX9_wonAt_X9_goBoth rfl rfl rfl (by decide +kernel) ⟨by decide, by decide⟩) hK hM hR rfl rfl hl.1 rfl (Nat.le_of_ble_eq_true rfl) dX9_wonAt_98 ⟨by decide, by decide⟩ ?_
                    refine m_zastN (k := 3721 * (2 * g + bN mi) + 61 * x + y) hx hb hK hh hwn (bI_01 _) (rfl) (by omega) (by decide) dX9_wonAt_101 (fun M1 H1 locs1 e1 hh => ?_)
                    have hR := mu_kp e1 (mp_ne hR hwn (by simp)) hR
                    have hov := mu_kp e1 (mp_ne hov hwn (by simp)) hov
                    have hwn := mu_at e1
                    have hkp := hkp.put e1 (by simp)
                    have hwn : M1 wn = some (.inl (cA 2, 14884, .inl (upd f (3721 * (2 * g + bN mi) + 61 * x + y) (bI (!lsB g mi x y))))) := hwn
                    have hM := hh.1
                    refine lv_iinc (v := nI (y + 1)) (lv' := [(7, .int (nI (y + 1))), (0, .ref m0), (1, .int (nI g)), (2, .int (bI mi)), (3, .int (nI a)), (4, .int (nI b)), (5, .int (nI (2 * g + bN mi))), (6, .int (nI x))]) hx hb dX9_wonAt_102 hl (k := 7) rfl (nI_up y) (by decide) rfl (fun ls hl => ?_)
                    refine lv_goto (tgt := 46) hx hb dX9_wonAt_105 (by decide) ?_
                    exact ih_46 (y + 1) ((upd f (3721 * (2 * g + bN mi) + 61 * x + y) (bI (!lsB g mi x y)))) _ _ _ _ (by omega) (hup.nxt (by omega) (by omega) hbn) (fun i hi => by rw [pk_un (by omega)]; exact hot i hi) hh hkp hR hwn hov (by omega) (lv_sub hl [1, 2, 3, 4, 5, 6, 7, 0] rfl)
                  · skip
                    have q0 : g = 0 := (nI_eq (b := 0) (by omega) (by decide)).mp c_73
                    refine lv_aload_n hx hb dX9_wonAt_76 rfl (lv_at hl 0 rfl) ?_
                    refine lv_iload hx hb dX9_wonAt_77 (lv_at hl 5 rfl) ?_
                    refine lv_iload_n hx hb dX9_wonAt_79 rfl (lv_at hl 2 rfl) ?_
                    refine lv_iload hx hb dX9_wonAt_80 (lv_at hl 6 rfl) ?_
                    refine lv_iload hx hb dX9_wonAt_82 (lv_at hl 7 rfl) ?_
                    refine cpV (As := [.int (nI (2 * g + bN mi)), .int (bI mi), .int (nI x), .int (nI y)]) (rest := [.int (nI (3721 * (2 * g + bN mi) + 61 * x + y)), .ref wn]) (k_X9_goS l D cA _ m0 v wn f (2 * g + bN mi) mi x y g q0 hR hv3 hwn (by omega) (by omega) (by omega) hup) ⟨hx, hb, hml, hown, hts⟩ (cwV 4 hts gX9_wonAt_X9_goShares rfl rfl rfl (by decide +kernel) ⟨by decide, by decide⟩) hK hM hR rfl rfl hl.1 rfl (Nat.le_of_ble_eq_true rfl) dX9_wonAt_84 ⟨by decide, by decide⟩ ?_
                    refine lv_goto (tgt := 101) hx hb dX9_wonAt_87 (by decide) ?_
                    refine m_zastN (k := 3721 * (2 * g + bN mi) + 61 * x + y) hx hb hK hh hwn (bI_01 _) (rfl) (by omega) (by decide) dX9_wonAt_101 (fun M1 H1 locs1 e1 hh => ?_)
                    have hR := mu_kp e1 (mp_ne hR hwn (by simp)) hR
                    have hov := mu_kp e1 (mp_ne hov hwn (by simp)) hov
                    have hwn := mu_at e1
                    have hkp := hkp.put e1 (by simp)
                    have hwn : M1 wn = some (.inl (cA 2, 14884, .inl (upd f (3721 * (2 * g + bN mi) + 61 * x + y) (bI (!lsB g mi x y))))) := hwn
                    have hM := hh.1
                    refine lv_iinc (v := nI (y + 1)) (lv' := [(7, .int (nI (y + 1))), (0, .ref m0), (1, .int (nI g)), (2, .int (bI mi)), (3, .int (nI a)), (4, .int (nI b)), (5, .int (nI (2 * g + bN mi))), (6, .int (nI x))]) hx hb dX9_wonAt_102 hl (k := 7) rfl (nI_up y) (by decide) rfl (fun ls hl => ?_)
                    refine lv_goto (tgt := 46) hx hb dX9_wonAt_105 (by decide) ?_
                    exact ih_46 (y + 1) ((upd f (3721 * (2 * g + bN mi) + 61 * x + y) (bI (!lsB g mi x y)))) _ _ _ _ (by omega) (hup.nxt (by omega) (by omega) hbn) (fun i hi => by rw [pk_un (by omega)]; exact hot i hi) hh hkp hR hwn hov (by omega) (lv_sub hl [1, 2, 3, 4, 5, 6, 7, 0] rfl)
            exact j_46 (62) 0 f _ _ _ _ (by omega) hup hot hh hkp hR hwn hov (by omega) (lv_sub hl [1, 2, 3, 4, 5, 6, 7, 0] rfl)
      exact j_36 (62) 0 fw _ _ _ _ (by omega) (fun x1 y1 _ _ h => by omega) (fun _ _ => rfl) hh hkp hR hwn hov (by omega) (lv_sub hl [2, 3, 4, 5, 6, 1, 0] rfl)
  · skip
    have qm := bI_ne0 c_4
    refine lv_iconst (v := 1) hx hb dX9_wonAt_7 (by decide) ?_
    refine lv_goto (tgt := 12) hx hb dX9_wonAt_8 (by decide) ?_
    refine lv_iadd hx hb dX9_wonAt_12 ?_
    refine tpi (x' := nI (2 * g + bN mi)) (by rw [qm]; exact nI_add _ _) ?_
    refine lv_istore (lv' := [(5, .int (nI (2 * g + bN mi))), (0, .ref m0), (1, .int (nI g)), (2, .int (bI mi)), (3, .int (nI a)), (4, .int (nI b))]) hx hb dX9_wonAt_13 hl (by decide) rfl (fun ls hl => ?_)
    refine lv_aload_n hx hb dX9_wonAt_15 rfl (lv_at hl 1 rfl) ?_
    refine m_get (ci := 9) (C := RX9) (T := TX9) (N := 18) (v := v 4) hx hb hts in_X9 hown hK hM hR rfl 4 (by decide) fl_20 (fun _ h => h) rfl dX9_wonAt_16 ?_
    refine tpv (hv4) ?_
    refine lv_iload hx hb dX9_wonAt_19 (lv_at hl 0 rfl) ?_
    refine m_zaldN (k := 2 * g + bN mi) hx hb hK hM hov (rfl) (by omega) (by decide) dX9_wonAt_21 ?_
    refine bz_ne (tgt := 114) hx hb dX9_wonAt_22 (by decide) (fun c_22 n_22 => ?_) (fun c_22 n_22 => ?_)
    · skip
      have hdone := hT g mi hg1 c_22
      have hval : fw (3721 * (2 * g + bN mi) + 61 * a + b) = bI (!lsB g mi a b) := hdone a b ha hb0
      refine lv_aload_n hx hb dX9_wonAt_114 rfl (lv_at hl 1 rfl) ?_
      refine m_get (ci := 9) (C := RX9) (T := TX9) (N := 18) (v := v 3) hx hb hts in_X9 hown hK hM hR rfl 3 (by decide) fl_16 (fun _ h => h) rfl dX9_wonAt_115 ?_
      refine tpv (hv3) ?_
      refine lv_sipush (v := 3721) hx hb dX9_wonAt_118 (by decide) ?_
      refine lv_iload hx hb dX9_wonAt_121 (lv_at hl 0 rfl) ?_
      refine lv_imul hx hb dX9_wonAt_123 ?_
      refine tpi (x' := nI (3721 * (2 * g + bN mi))) (pk_mul 3721 _) ?_
      refine lv_bipush (v := 61) hx hb dX9_wonAt_124 (by decide) ?_
      refine lv_iload_n hx hb dX9_wonAt_126 rfl (lv_at hl 4 rfl) ?_
      refine lv_imul hx hb dX9_wonAt_127 ?_
      refine tpi (x' := nI (61 * a)) (pk_mul 61 _) ?_
      refine lv_iadd hx hb dX9_wonAt_128 ?_
      refine tpi (x' := nI (3721 * (2 * g + bN mi) + 61 * a)) (nI_add _ _) ?_
      refine lv_iload hx hb dX9_wonAt_129 (lv_at hl 5 rfl) ?_
      refine lv_iadd hx hb dX9_wonAt_131 ?_
      refine tpi (x' := nI (3721 * (2 * g + bN mi) + 61 * a + b)) (nI_add _ _) ?_
      refine m_zaldN (k := 3721 * (2 * g + bN mi) + 61 * a + b) hx hb hK hM hwn (rfl) (by omega) (by decide) dX9_wonAt_132 ?_
      refine tpi (x' := bI (!lsB g mi a b)) (hval) ?_
      exact hretz _ _ _ _ _ _ _ _ (!lsB g mi a b) hh (rfl) (⟨rfl, ⟨_, _, hwn, hov, hT⟩, hkp⟩) (by decide) (by decide) dX9_wonAt_133 rfl
    · skip
      have hz : fo (2 * g + bN mi) = 0 := c_22
      refine lv_aload_n hx hb dX9_wonAt_25 rfl (lv_at hl 1 rfl) ?_
      refine m_get (ci := 9) (C := RX9) (T := TX9) (N := 18) (v := v 4) hx hb hts in_X9 hown hK hM hR rfl 4 (by decide) fl_20 (fun _ h => h) rfl dX9_wonAt_26 ?_
      refine tpv (hv4) ?_
      refine lv_iload hx hb dX9_wonAt_29 (lv_at hl 0 rfl) ?_
      refine lv_iconst (v := 1) hx hb dX9_wonAt_31 (by decide) ?_
      refine m_zastN (k := 2 * g + bN mi) hx hb hK hh hov (Or.inr rfl) (rfl) (by omega) (by decide) dX9_wonAt_32 (fun M1 H1 locs1 e1 hh => ?_)
      have hR := mu_kp e1 (mp_ne hR hov (by simp)) hR
      have hwn := mu_kp e1 (mp_ne hwn hov (by simp)) hwn
      have hov := mu_at e1
      have hkp := hkp.put e1 (by simp)
      have hov : M1 ov = some (.inl (cA 2, 4, .inl (upd fo (2 * g + bN mi) 1))) := hov
      have hM := hh.1
      refine lv_iconst (v := 0) hx hb dX9_wonAt_33 (by decide) ?_
      refine tpi (x' := nI 0) (rfl) ?_
      refine lv_istore (lv' := [(6, .int (nI 0)), (5, .int (nI (2 * g + bN mi))), (0, .ref m0), (1, .int (nI g)), (2, .int (bI mi)), (3, .int (nI a)), (4, .int (nI b))]) hx hb dX9_wonAt_34 hl (by decide) rfl (fun ls hl => ?_)
      have j_36 : ∀ (fu : Nat) (x : Nat) (f : Nat → Int32) (M1 : mp) (H : Heap) (locs : List Loc) (ls : Array Slot), (x ≤ 61) → (upTo g mi (2 * g + bN mi) x 0 f) → (∀ i, i < 3721 * (2 * g + bN mi) ∨ 3721 * (2 * g + bN mi) + 3721 ≤ i → f i = fw i) → (hw D M s.heap M1 H locs) → (kpL M M1 [wn, ov]) → (M1 m0 = some (.inr (9, rL v))) → (M1 wn = some (.inl (cA 2, 14884, .inl f))) → (M1 ov = some (.inl (cA 2, 4, .inl (upd fo (2 * g + bN mi) 1)))) → (61 - x < fu) → lv_has ls 8 [(0, .ref m0), (1, .int (nI g)), (2, .int (bI mi)), (3, .int (nI a)), (4, .int (nI b)), (5, .int (nI (2 * g + bN mi))), (6, .int (nI x))] → W p l e ({ frames := 1, cells := 0, slots := 0, locals := 26 } : Room) s m args below meth c H locs 0 0 Q (F0 m 36 ls []) := by
        intro fu
        induction fu with
        | zero => intro x f M1 H locs ls hx1 hup hot hh hkp hR hwn hov hm_36 _; exact absurd hm_36 (Nat.not_lt_zero _)
        | succ fu ih_36 =>
          intro x f M1 H locs ls hx1 hup hot hh hkp hR hwn hov hm_36 hl
          have hM := hh.1
          refine lv_iload hx hb dX9_wonAt_36 (lv_at hl 6 rfl) ?_
          refine lv_bipush (v := 60) hx hb dX9_wonAt_38 (by decide) ?_
          refine bi_gt (tgt := 114) hx hb dX9_wonAt_40 (by decide) (fun c_40 n_40 => ?_) (fun c_40 n_40 => ?_)
          · skip
            have h6 : 60 < x := (nI_ltI (a := 60) (by decide) (by omega)).mp c_40
            have hval : f (3721 * (2 * g + bN mi) + 61 * a + b) = bI (!lsB g mi a b) := hup a b ha hb0 (Or.inl (by omega))
            refine lv_aload_n hx hb dX9_wonAt_114 rfl (lv_at hl 0 rfl) ?_
            refine m_get (ci := 9) (C := RX9) (T := TX9) (N := 18) (v := v 3) hx hb hts in_X9 hown hK hM hR rfl 3 (by decide) fl_16 (fun _ h => h) rfl dX9_wonAt_115 ?_
            refine tpv (hv3) ?_
            refine lv_sipush (v := 3721) hx hb dX9_wonAt_118 (by decide) ?_
            refine lv_iload hx hb dX9_wonAt_121 (lv_at hl 5 rfl) ?_
            refine lv_imul hx hb dX9_wonAt_123 ?_
            refine tpi (x' := nI (3721 * (2 * g + bN mi))) (pk_mul 3721 _) ?_
            refine lv_bipush (v := 61) hx hb dX9_wonAt_124 (by decide) ?_
            refine lv_iload_n hx hb dX9_wonAt_126 rfl (lv_at hl 3 rfl) ?_
            refine lv_imul hx hb dX9_wonAt_127 ?_
            refine tpi (x' := nI (61 * a)) (pk_mul 61 _) ?_
            refine lv_iadd hx hb dX9_wonAt_128 ?_
            refine tpi (x' := nI (3721 * (2 * g + bN mi) + 61 * a)) (nI_add _ _) ?_
            refine lv_iload hx hb dX9_wonAt_129 (lv_at hl 4 rfl) ?_
            refine lv_iadd hx hb dX9_wonAt_131 ?_
            refine tpi (x' := nI (3721 * (2 * g + bN mi) + 61 * a + b)) (nI_add _ _) ?_
            refine m_zaldN (k := 3721 * (2 * g + bN mi) + 61 * a + b) hx hb hK hM hwn (rfl) (by omega) (by decide) dX9_wonAt_132 ?_
            refine tpi (x' := bI (!lsB g mi a b)) (hval) ?_
            exact hretz _ _ _ _ _ _ _ _ (!lsB g mi a b) hh (rfl) (⟨rfl, ⟨_, _, hwn, hov, hT.done hg1 (fun x1 y1 q1 q2 => hup x1 y1 q1 q2 (Or.inl (by omega))) hot⟩, hkp⟩) (by decide) (by decide) dX9_wonAt_133 rfl
          · skip
            have h6 : x ≤ 60 := (nI_leI (b := 60) (by omega) (by decide)).mp c_40
            refine lv_iconst (v := 0) hx hb dX9_wonAt_43 (by decide) ?_
            refine tpi (x' := nI 0) (rfl) ?_
            refine lv_istore (lv' := [(7, .int (nI 0)), (0, .ref m0), (1, .int (nI g)), (2, .int (bI mi)), (3, .int (nI a)), (4, .int (nI b)), (5, .int (nI (2 * g + bN mi))), (6, .int (nI x))]) hx hb dX9_wonAt_44 hl (by decide) rfl (fun ls hl => ?_)
            have j_46 : ∀ (fu : Nat) (y : Nat) (f : Nat → Int32) (M1 : mp) (H : Heap) (locs : List Loc) (ls : Array Slot), (y ≤ 61) → (upTo g mi (2 * g + bN mi) x y f) → (∀ i, i < 3721 * (2 * g + bN mi) ∨ 3721 * (2 * g + bN mi) + 3721 ≤ i → f i = fw i) → (hw D M s.heap M1 H locs) → (kpL M M1 [wn, ov]) → (M1 m0 = some (.inr (9, rL v))) → (M1 wn = some (.inl (cA 2, 14884, .inl f))) → (M1 ov = some (.inl (cA 2, 4, .inl (upd fo (2 * g + bN mi) 1)))) → (61 - y < fu) → lv_has ls 8 [(0, .ref m0), (1, .int (nI g)), (2, .int (bI mi)), (3, .int (nI a)), (4, .int (nI b)), (5, .int (nI (2 * g + bN mi))), (6, .int (nI x)), (7, .int (nI y))] → W p l e ({ frames := 1, cells := 0, slots := 0, locals := 26 } : Room) s m args below meth c H locs 0 0 Q (F0 m 46 ls []) := by
              intro fu
              induction fu with
              | zero => intro y f M1 H locs ls hy1 hup hot hh hkp hR hwn hov hm_46 _; exact absurd hm_46 (Nat.not_lt_zero _)
              | succ fu ih_46 =>
                intro y f M1 H locs ls hy1 hup hot hh hkp hR hwn hov hm_46 hl
                have hM := hh.1
                refine lv_iload hx hb dX9_wonAt_46 (lv_at hl 7 rfl) ?_
                refine lv_bipush (v := 60) hx hb dX9_wonAt_48 (by decide) ?_
                refine bi_gt (tgt := 108) hx hb dX9_wonAt_50 (by decide) (fun c_50 n_50 => ?_) (fun c_50 n_50 => ?_)
                · skip
                  have h7 : 60 < y := (nI_ltI (a := 60) (by decide) (by omega)).mp c_50
                  refine lv_iinc (v := nI (x + 1)) (lv' := [(6, .int (nI (x + 1))), (0, .ref m0), (1, .int (nI g)), (2, .int (bI mi)), (3, .int (nI a)), (4, .int (nI b)), (5, .int (nI (2 * g + bN mi))), (7, .int (nI y))]) hx hb dX9_wonAt_108 hl (k := 6) rfl (nI_up x) (by decide) rfl (fun ls hl => ?_)
                  refine lv_goto (tgt := 36) hx hb dX9_wonAt_111 (by decide) ?_
                  exact ih_36 (x + 1) f _ _ _ _ (by omega) (hup.row (by omega)) hot hh hkp hR hwn hov (by omega) (lv_sub hl [1, 2, 3, 4, 5, 6, 0] rfl)
                · skip
                  have h7 : y ≤ 60 := (nI_leI (b := 60) (by omega) (by decide)).mp c_50
                  refine lv_aload_n hx hb dX9_wonAt_53 rfl (lv_at hl 0 rfl) ?_
                  refine m_get (ci := 9) (C := RX9) (T := TX9) (N := 18) (v := v 3) hx hb hts in_X9 hown hK hM hR rfl 3 (by decide) fl_16 (fun _ h => h) rfl dX9_wonAt_54 ?_
                  refine tpv (hv3) ?_
                  refine lv_sipush (v := 3721) hx hb dX9_wonAt_57 (by decide) ?_
                  refine lv_iload hx hb dX9_wonAt_60 (lv_at hl 5 rfl) ?_
                  refine lv_imul hx hb dX9_wonAt_62 ?_
                  refine tpi (x' := nI (3721 * (2 * g + bN mi))) (pk_mul 3721 _) ?_
                  refine lv_bipush (v := 61) hx hb dX9_wonAt_63 (by decide) ?_
                  refine lv_iload hx hb dX9_wonAt_65 (lv_at hl 6 rfl) ?_
                  refine lv_imul hx hb dX9_wonAt_67 ?_
                  refine tpi (x' := nI (61 * x)) (pk_mul 61 _) ?_
                  refine lv_iadd hx hb dX9_wonAt_68 ?_
                  refine tpi (x' := nI (3721 * (2 * g + bN mi) + 61 * x)) (nI_add _ _) ?_
                  refine lv_iload hx hb dX9_wonAt_69 (lv_at hl 7 rfl) ?_
                  refine lv_iadd hx hb dX9_wonAt_71 ?_
                  refine tpi (x' := nI (3721 * (2 * g + bN mi) + 61 * x + y)) (nI_add _ _) ?_
                  refine lv_iload_n hx hb dX9_wonAt_72 rfl (lv_at hl 1 rfl) ?_
                  refine bz_ne (tgt := 90) hx hb dX9_wonAt_73 (by decide) (fun c_73 n_73 => ?_) (fun c_73 n_73 => ?_)
                  · skip
                    have q1 : g = 1 := by have : ¬ g = 0 := fun z => c_73 (by rw [z]; rfl); omega
                    refine lv_aload_n hx hb dX9_wonAt_90 rfl (lv_at hl 0 rfl) ?_
                    refine lv_iload hx hb dX9_wonAt_91 (lv_at hl 5 rfl) ?_
                    refine lv_iload_n hx hb dX9_wonAt_93 rfl (lv_at hl 2 rfl) ?_
                    refine lv_iload hx hb dX9_wonAt_94 (lv_at hl 6 rfl) ?_
                    refine lv_iload hx hb dX9_wonAt_96 (lv_at hl 7 rfl) ?_
                    refine cpV (As := [.int (nI (2 * g + bN mi)), .int (bI mi), .int (nI x), .int (nI y)]) (rest := [.int (nI (3721 * (2 * g + bN mi) + 61 * x + y)), .ref wn]) (k_X9_goB l D cA _ m0 v wn f (2 * g + bN mi) mi x y g q1 hR hv3 hwn (by omega) (by omega) (by omega) hup) ⟨hx, hb, hml, hown, hts⟩ (cwV 4 hts gX9_wonAt_X9_goBoth rfl rfl rfl (by decide +kernel) ⟨by decide, by decide⟩) hK hM hR rfl rfl hl.1 rfl (Nat.le_of_ble_eq_true rfl) dX9_wonAt_98 ⟨by decide, by decide⟩ ?_
                    refine m_zastN (k := 3721 * (2 * g + bN mi) + 61 * x + y) hx hb hK hh hwn (bI_01 _) (rfl) (by omega) (by decide) dX9_wonAt_101 (fun M1 H1 locs1 e1 hh => ?_)
                    have hR := mu_kp e1 (mp_ne hR hwn (by simp)) hR
                    have hov := mu_kp e1 (mp_ne hov hwn (by simp)) hov
                    have hwn := mu_at e1
                    have hkp := hkp.put e1 (by simp)
                    have hwn : M1 wn = some (.inl (cA 2, 14884, .inl (upd f (3721 * (2 * g + bN mi) + 61 * x + y) (bI (!lsB g mi x y))))) := hwn
                    have hM := hh.1
                    refine lv_iinc (v := nI (y + 1)) (lv' := [(7, .int (nI (y + 1))), (0, .ref m0), (1, .int (nI g)), (2, .int (bI mi)), (3, .int (nI a)), (4, .int (nI b)), (5, .int (nI (2 * g + bN mi))), (6, .int (nI x))]) hx hb dX9_wonAt_102 hl (k := 7) rfl (nI_up y) (by decide) rfl (fun ls hl => ?_)
                    refine lv_goto (tgt := 46) hx hb dX9_wonAt_105 (by decide) ?_
                    exact ih_46 (y + 1) ((upd f (3721 * (2 * g + bN mi) + 61 * x + y) (bI (!lsB g mi x y)))) _ _ _ _ (by omega) (hup.nxt (by omega) (by omega) hbn) (fun i hi => by rw [pk_un (by omega)]; exact hot i hi) hh hkp hR hwn hov (by omega) (lv_sub hl [1, 2, 3, 4, 5, 6, 7, 0] rfl)
                  · skip
                    have q0 : g = 0 := (nI_eq (b := 0) (by omega) (by decide)).mp c_73
                    refine lv_aload_n hx hb dX9_wonAt_76 rfl (lv_at hl 0 rfl) ?_
                    refine lv_iload hx hb dX9_wonAt_77 (lv_at hl 5 rfl) ?_
                    refine lv_iload_n hx hb dX9_wonAt_79 rfl (lv_at hl 2 rfl) ?_
                    refine lv_iload hx hb dX9_wonAt_80 (lv_at hl 6 rfl) ?_
                    refine lv_iload hx hb dX9_wonAt_82 (lv_at hl 7 rfl) ?_
                    refine cpV (As := [.int (nI (2 * g + bN mi)), .int (bI mi), .int (nI x), .int (nI y)]) (rest := [.int (nI (3721 * (2 * g + bN mi) + 61 * x + y)), .ref wn]) (k_X9_goS l D cA _ m0 v wn f (2 * g + bN mi) mi x y g q0 hR hv3 hwn (by omega) (by omega) (by omega) hup) ⟨hx, hb, hml, hown, hts⟩ (cwV 4 hts gX9_wonAt_X9_goShares rfl rfl rfl (by decide +kernel) ⟨by decide, by decide⟩) hK hM hR rfl rfl hl.1 rfl (Nat.le_of_ble_eq_true rfl) dX9_wonAt_84 ⟨by decide, by decide⟩ ?_
                    refine lv_goto (tgt := 101) hx hb dX9_wonAt_87 (by decide) ?_
                    refine m_zastN (k := 3721 * (2 * g + bN mi) + 61 * x + y) hx hb hK hh hwn (bI_01 _) (rfl) (by omega) (by decide) dX9_wonAt_101 (fun M1 H1 locs1 e1 hh => ?_)
                    have hR := mu_kp e1 (mp_ne hR hwn (by simp)) hR
                    have hov := mu_kp e1 (mp_ne hov hwn (by simp)) hov
                    have hwn := mu_at e1
                    have hkp := hkp.put e1 (by simp)
                    have hwn : M1 wn = some (.inl (cA 2, 14884, .inl (upd f (3721 * (2 * g + bN mi) + 61 * x + y) (bI (!lsB g mi x y))))) := hwn
                    have hM := hh.1
                    refine lv_iinc (v := nI (y + 1)) (lv' := [(7, .int (nI (y + 1))), (0, .ref m0), (1, .int (nI g)), (2, .int (bI mi)), (3, .int (nI a)), (4, .int (nI b)), (5, .int (nI (2 * g + bN mi))), (6, .int (nI x))]) hx hb dX9_wonAt_102 hl (k := 7) rfl (nI_up y) (by decide) rfl (fun ls hl => ?_)
                    refine lv_goto (tgt := 46) hx hb dX9_wonAt_105 (by decide) ?_
                    exact ih_46 (y + 1) ((upd f (3721 * (2 * g + bN mi) + 61 * x + y) (bI (!lsB g mi x y)))) _ _ _ _ (by omega) (hup.nxt (by omega) (by omega) hbn) (fun i hi => by rw [pk_un (by omega)]; exact hot i hi) hh hkp hR hwn hov (by omega) (lv_sub hl [1, 2, 3, 4, 5, 6, 7, 0] rfl)
            exact j_46 (62) 0 f _ _ _ _ (by omega) hup hot hh hkp hR hwn hov (by omega) (lv_sub hl [1, 2, 3, 4, 5, 6, 7, 0] rfl)
      exact j_36 (62) 0 fw _ _ _ _ (by omega) (fun x1 y1 _ _ h => by omega) (fun _ _ => rfl) hh hkp hR hwn hov (by omega) (lv_sub hl [2, 3, 4, 5, 6, 1, 0] rfl)
