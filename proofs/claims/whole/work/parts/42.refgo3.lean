set_option maxHeartbeats 1000000 in
set_option maxRecDepth 100000 in
theorem k_X9_goThree (l : Launch) (D : va_G) (cA : Nat → ClassId) (M : mp) (m0 : Nat) (v : Nat → Value) (th it : Nat) (ft : Nat → Int32) (mi : Bool) (a b c0 : Nat)  (hR : M m0 = some (.inr (9, rL v))) (hv5 : v 5 = .ref th) (hv6 : v 6 = .ref it) (hth : M th = some (.inl (cA 2, 2662, .inl ft))) (ha : a ≤ 10) (hb0 : b ≤ 10) (hc0 : c0 ≤ 10) (hup : up3 mi (bN mi) (n3 a b c0) ft)  : PC l D cA yX9_goThree wsX9_goThree 0 0 [.ref m0, .int (nI (bN mi)), .int (bI mi), .int (nI a), .int (nI b), .int (nI c0)] M (some (.int (bI (!l3 mi (n3 a b c0))))) := by
  refine PC.zz (cc := cX9_goThree) (maxL := 9) (by decide) rfl (Nat.le_of_ble_eq_true rfl) ?_
  intro p e s m args below meth c H Q ls B hM hl hret
  obtain ⟨hx, hb, hown, hts, hml, hK, hin⟩ := B
  have hown : s.vm.findClass RX9 = some m.cls := hown
  have hl : lv_has ls 9 [(0, .ref m0), (1, .int (nI (bN mi))), (2, .int (bI mi)), (3, .int (nI a)), (4, .int (nI b)), (5, .int (nI c0))] := hl
  have in_X9 : ∀ w ∈ wsX90, w ∈ wsX9_goThree := by decide +kernel
  have fl_23 := hts (.fieldLink RX9 23 "GoldHeapsModel" "three" "[Z") (by decide +kernel)
  have hok := g3_ok mi a (by omega) b (by omega) c0 (by omega)
  have hbn : bN mi ≤ 1 := by cases mi <;> decide
  have hn3 : n3 a b c0 = 121 * a + 11 * b + c0 := rfl
  refine lv_iload_n hx hb dX9_goThree_0 rfl (lv_at hl 3 rfl) ?_
  refine lv_iload hx hb dX9_goThree_1 (lv_at hl 4 rfl) ?_
  refine lv_iadd hx hb dX9_goThree_3 ?_
  refine tpi (x' := nI (a + b)) (nI_add _ _) ?_
  refine lv_iload hx hb dX9_goThree_4 (lv_at hl 5 rfl) ?_
  refine lv_iadd hx hb dX9_goThree_6 ?_
  refine tpi (x' := nI (a + b + c0)) (nI_add _ _) ?_
  refine bz_ne (tgt := 12) hx hb dX9_goThree_7 (by decide) (fun c_7 n_7 => ?_) (fun c_7 n_7 => ?_)
  · skip
    have e0 : ¬ a + b + c0 = 0 := fun z => c_7 (by rw [z]; rfl)
    refine lv_sipush (v := 1331) hx hb dX9_goThree_12 (by decide) ?_
    refine lv_iload_n hx hb dX9_goThree_15 rfl (lv_at hl 1 rfl) ?_
    refine lv_imul hx hb dX9_goThree_16 ?_
    refine tpi (x' := nI (1331 * bN mi)) (pk_mul 1331 _) ?_
    refine lv_bipush (v := 121) hx hb dX9_goThree_17 (by decide) ?_
    refine lv_iload_n hx hb dX9_goThree_19 rfl (lv_at hl 3 rfl) ?_
    refine lv_imul hx hb dX9_goThree_20 ?_
    refine tpi (x' := nI (121 * a)) (pk_mul 121 _) ?_
    refine lv_iadd hx hb dX9_goThree_21 ?_
    refine tpi (x' := nI (1331 * bN mi + 121 * a)) (nI_add _ _) ?_
    refine lv_bipush (v := 11) hx hb dX9_goThree_22 (by decide) ?_
    refine lv_iload hx hb dX9_goThree_24 (lv_at hl 4 rfl) ?_
    refine lv_imul hx hb dX9_goThree_26 ?_
    refine tpi (x' := nI (11 * b)) (pk_mul 11 _) ?_
    refine lv_iadd hx hb dX9_goThree_27 ?_
    refine tpi (x' := nI (1331 * bN mi + 121 * a + 11 * b)) (nI_add _ _) ?_
    refine lv_iload hx hb dX9_goThree_28 (lv_at hl 5 rfl) ?_
    refine lv_iadd hx hb dX9_goThree_30 ?_
    refine tpi (x' := nI (1331 * bN mi + n3 a b c0)) (by rw [nI_add]; congr 1; omega) ?_
    refine lv_istore (lv' := [(6, .int (nI (1331 * bN mi + n3 a b c0))), (0, .ref m0), (1, .int (nI (bN mi))), (2, .int (bI mi)), (3, .int (nI a)), (4, .int (nI b)), (5, .int (nI c0))]) hx hb dX9_goThree_31 hl (by decide) rfl (fun ls hl => ?_)
    refine lv_iconst (v := 0) hx hb dX9_goThree_33 (by decide) ?_
    refine tpi (x' := bI (anB (s3 mi a b c0) 0)) (rfl) ?_
    refine lv_istore (lv' := [(7, .int (bI (anB (s3 mi a b c0) 0))), (6, .int (nI (1331 * bN mi + n3 a b c0))), (0, .ref m0), (1, .int (nI (bN mi))), (2, .int (bI mi)), (3, .int (nI a)), (4, .int (nI b)), (5, .int (nI c0))]) hx hb dX9_goThree_34 hl (by decide) rfl (fun ls hl => ?_)
    refine lv_iconst (v := 1) hx hb dX9_goThree_36 (by decide) ?_
    refine tpi (x' := nI (0 + 1)) (rfl) ?_
    refine lv_istore (lv' := [(8, .int (nI (0 + 1))), (7, .int (bI (anB (s3 mi a b c0) 0))), (6, .int (nI (1331 * bN mi + n3 a b c0))), (0, .ref m0), (1, .int (nI (bN mi))), (2, .int (bI mi)), (3, .int (nI a)), (4, .int (nI b)), (5, .int (nI c0))]) hx hb dX9_goThree_37 hl (by decide) rfl (fun ls hl => ?_)
    have j_39 : ∀ (fu : Nat) (k : Nat) (ls : Array Slot), (k ≤ 10) → (10 - k < fu) → lv_has ls 9 [(0, .ref m0), (3, .int (nI a)), (4, .int (nI b)), (5, .int (nI c0)), (6, .int (nI (1331 * bN mi + n3 a b c0))), (7, .int (bI (anB (s3 mi a b c0) k))), (8, .int (nI (k + 1)))] → W p l e ({ frames := 0, cells := 0, slots := 0, locals := 0 } : Room) s m args below meth c H [] 0 0 Q (F0 m 39 ls []) := by
      intro fu
      induction fu with
      | zero => intro k ls hk hm_39 _; exact absurd hm_39 (Nat.not_lt_zero _)
      | succ fu ih_39 =>
        intro k ls hk hm_39 hl
        refine lv_iload hx hb dX9_goThree_39 (lv_at hl 6 rfl) ?_
        refine lv_bipush (v := 10) hx hb dX9_goThree_41 (by decide) ?_
        refine bi_gt (tgt := 166) hx hb dX9_goThree_43 (by decide) (fun c_43 n_43 => ?_) (fun c_43 n_43 => ?_)
        · skip
          have hk6 : 10 < k + 1 := (nI_ltI (a := 10) (by decide) (by omega)).mp c_43
          have ek : k = 10 := by omega
          refine lv_iload hx hb dX9_goThree_166 (lv_at hl 5 rfl) ?_
          exact hret _ _ _ dX9_goThree_168 (by rw [← hok, if_neg e0, ek])
        · skip
          have hk6 : k + 1 ≤ 10 := (nI_leI (b := 10) (by omega) (by decide)).mp c_43
          have j_158 : ∀ (rz : Bool) (ls : Array Slot), (rz = (anB (s3 mi a b c0) k || s3 mi a b c0 (k + 1))) → lv_has ls 9 [(0, .ref m0), (3, .int (nI a)), (4, .int (nI b)), (5, .int (nI c0)), (6, .int (nI (1331 * bN mi + n3 a b c0))), (7, .int (bI (anB (s3 mi a b c0) k))), (8, .int (nI (k + 1)))] → W p l e ({ frames := 0, cells := 0, slots := 0, locals := 0 } : Room) s m args below meth c H [] 0 0 Q (F0 m 158 ls [.int (bI rz)]) := by
            intro rz ls hrz hl
            refine tpi (x' := bI (anB (s3 mi a b c0) (k + 1))) (by rw [hrz]; rfl) ?_
            refine lv_istore (lv' := [(7, .int (bI (anB (s3 mi a b c0) (k + 1)))), (0, .ref m0), (3, .int (nI a)), (4, .int (nI b)), (5, .int (nI c0)), (6, .int (nI (1331 * bN mi + n3 a b c0))), (8, .int (nI (k + 1)))]) hx hb dX9_goThree_158 hl (by decide) rfl (fun ls hl => ?_)
            refine lv_iinc (v := nI (k + 1 + 1)) (lv' := [(8, .int (nI (k + 1 + 1))), (7, .int (bI (anB (s3 mi a b c0) (k + 1)))), (0, .ref m0), (3, .int (nI a)), (4, .int (nI b)), (5, .int (nI c0)), (6, .int (nI (1331 * bN mi + n3 a b c0)))]) hx hb dX9_goThree_160 hl (k := 6) rfl (nI_up _) (by decide) rfl (fun ls hl => ?_)
            refine lv_goto (tgt := 39) hx hb dX9_goThree_163 (by decide) ?_
            exact ih_39 (k + 1) _ (by omega) (by omega) (lv_sub hl [2, 3, 4, 5, 6, 1, 0] rfl)
          refine lv_iload hx hb dX9_goThree_46 (lv_at hl 5 rfl) ?_
          refine bz_ne (tgt := 153) hx hb dX9_goThree_48 (by decide) (fun c_48 n_48 => ?_) (fun c_48 n_48 => ?_)
          · skip
            have hcn := bI_ne0 c_48
            refine lv_iconst (v := 1) hx hb dX9_goThree_153 (by decide) ?_
            refine tpi (x' := bI true) (rfl) ?_
            refine lv_goto (tgt := 158) hx hb dX9_goThree_154 (by decide) ?_
            exact j_158 true _ (by rw [hcn]; rfl) (lv_sub hl [0, 1, 2, 3, 4, 5, 6] rfl)
          · skip
            have hcn := bI_eq0 c_48
            refine lv_iload hx hb dX9_goThree_51 (lv_at hl 6 rfl) ?_
            refine lv_iload_n hx hb dX9_goThree_53 rfl (lv_at hl 1 rfl) ?_
            refine bi_gt (tgt := 73) hx hb dX9_goThree_54 (by decide) (fun c_54 n_54 => ?_) (fun c_54 n_54 => ?_)
            · skip
              have k1 : ¬ k + 1 ≤ a := fun q => absurd ((nI_ltI (by omega) (by omega)).mp c_54) (by omega)
              refine lv_iload hx hb dX9_goThree_73 (lv_at hl 6 rfl) ?_
              refine lv_iload hx hb dX9_goThree_75 (lv_at hl 2 rfl) ?_
              refine bi_gt (tgt := 96) hx hb dX9_goThree_77 (by decide) (fun c_77 n_77 => ?_) (fun c_77 n_77 => ?_)
              · skip
                have k2 : ¬ k + 1 ≤ b := fun q => absurd ((nI_ltI (by omega) (by omega)).mp c_77) (by omega)
                refine lv_iload hx hb dX9_goThree_96 (lv_at hl 6 rfl) ?_
                refine lv_iload hx hb dX9_goThree_98 (lv_at hl 3 rfl) ?_
                refine bi_gt (tgt := 116) hx hb dX9_goThree_100 (by decide) (fun c_100 n_100 => ?_) (fun c_100 n_100 => ?_)
                · skip
                  have k3 : ¬ k + 1 ≤ c0 := fun q => absurd ((nI_ltI (by omega) (by omega)).mp c_100) (by omega)
                  refine lv_iload hx hb dX9_goThree_116 (lv_at hl 6 rfl) ?_
                  refine lv_iload_n hx hb dX9_goThree_118 rfl (lv_at hl 1 rfl) ?_
                  refine bi_gt (tgt := 157) hx hb dX9_goThree_119 (by decide) (fun c_119 n_119 => ?_) (fun c_119 n_119 => ?_)
                  · skip
                    have k4 : ¬ k + 1 ≤ a := fun q => absurd ((nI_ltI (by omega) (by omega)).mp c_119) (by omega)
                    refine lv_iconst (v := 0) hx hb dX9_goThree_157 (by decide) ?_
                    refine tpi (x' := bI false) (rfl) ?_
                    exact j_158 false _ (by rw [hcn]; unfold s3; first | (simp [k1, k2, k3, k4]; done) | omega) (lv_sub hl [0, 1, 2, 3, 4, 5, 6] rfl)
                  · skip
                    have k4 : k + 1 ≤ a := (nI_leI (by omega) (by omega)).mp c_119
                    refine lv_iload hx hb dX9_goThree_122 (lv_at hl 6 rfl) ?_
                    refine lv_iload hx hb dX9_goThree_124 (lv_at hl 2 rfl) ?_
                    refine bi_gt (tgt := 157) hx hb dX9_goThree_126 (by decide) (fun c_126 n_126 => ?_) (fun c_126 n_126 => ?_)
                    · skip
                      have k5 : ¬ k + 1 ≤ b := fun q => absurd ((nI_ltI (by omega) (by omega)).mp c_126) (by omega)
                      refine lv_iconst (v := 0) hx hb dX9_goThree_157 (by decide) ?_
                      refine tpi (x' := bI false) (rfl) ?_
                      exact j_158 false _ (by rw [hcn]; unfold s3; first | (simp [k1, k2, k3, k4, k5]; done) | omega) (lv_sub hl [0, 1, 2, 3, 4, 5, 6] rfl)
                    · skip
                      have k5 : k + 1 ≤ b := (nI_leI (by omega) (by omega)).mp c_126
                      refine lv_iload hx hb dX9_goThree_129 (lv_at hl 6 rfl) ?_
                      refine lv_iload hx hb dX9_goThree_131 (lv_at hl 3 rfl) ?_
                      refine bi_gt (tgt := 157) hx hb dX9_goThree_133 (by decide) (fun c_133 n_133 => ?_) (fun c_133 n_133 => ?_)
                      · skip
                        have k6 : ¬ k + 1 ≤ c0 := fun q => absurd ((nI_ltI (by omega) (by omega)).mp c_133) (by omega)
                        refine lv_iconst (v := 0) hx hb dX9_goThree_157 (by decide) ?_
                        refine tpi (x' := bI false) (rfl) ?_
                        exact j_158 false _ (by rw [hcn]; unfold s3; first | (simp [k1, k2, k3, k4, k5, k6]; done) | omega) (lv_sub hl [0, 1, 2, 3, 4, 5, 6] rfl)
                      · skip
                        have k6 : k + 1 ≤ c0 := (nI_leI (by omega) (by omega)).mp c_133
                        refine lv_aload_n hx hb dX9_goThree_136 rfl (lv_at hl 0 rfl) ?_
                        refine m_get (ci := 9) (C := RX9) (T := TX9) (N := 18) (v := v 5) hx hb hts in_X9 hown hK hM hR rfl 5 (by decide) fl_23 (fun _ h => h) rfl dX9_goThree_137 ?_
                        refine tpv (hv5) ?_
                        refine lv_iload hx hb dX9_goThree_140 (lv_at hl 4 rfl) ?_
                        refine lv_sipush (v := 133) hx hb dX9_goThree_142 (by decide) ?_
                        refine lv_iload hx hb dX9_goThree_145 (lv_at hl 6 rfl) ?_
                        refine lv_imul hx hb dX9_goThree_147 ?_
                        refine tpi (x' := nI (133 * (k + 1))) (pk_mul 133 _) ?_
                        refine lv_isub hx hb dX9_goThree_148 ?_
                        refine tpi (x' := nI (1331 * bN mi + n3 a b c0 - 133 * (k + 1))) (nI_sub (by omega)) ?_
                        refine m_zaldN (k := 1331 * bN mi + n3 a b c0 - 133 * (k + 1)) hx hb hK hM hth (rfl) (by omega) (by decide) dX9_goThree_149 ?_
                        refine tpi (x' := bI (!l3 mi (n3 a b c0 - 133 * (k + 1)))) (by rw [show 1331 * bN mi + n3 a b c0 - 133 * (k + 1) = 1331 * bN mi + (n3 a b c0 - 133 * (k + 1)) by omega]; exact hup _ (by omega) (by omega)) ?_
                        refine bz_ne (tgt := 157) hx hb dX9_goThree_150 (by decide) (fun c_150 n_150 => ?_) (fun c_150 n_150 => ?_)
                        · skip
                          have l4 := bI_nn0 c_150
                          refine lv_iconst (v := 0) hx hb dX9_goThree_157 (by decide) ?_
                          refine tpi (x' := bI false) (rfl) ?_
                          exact j_158 false _ (by rw [hcn]; unfold s3; first | (simp [k1, k2, k3, k4, k5, k6, l4]; done) | omega) (lv_sub hl [0, 1, 2, 3, 4, 5, 6] rfl)
                        · skip
                          have l4 := bI_n0 c_150
                          refine lv_iconst (v := 1) hx hb dX9_goThree_153 (by decide) ?_
                          refine tpi (x' := bI true) (rfl) ?_
                          refine lv_goto (tgt := 158) hx hb dX9_goThree_154 (by decide) ?_
                          exact j_158 true _ (by rw [hcn]; unfold s3; first | (simp [k1, k2, k3, k4, k5, k6, l4]; done) | omega) (lv_sub hl [0, 1, 2, 3, 4, 5, 6] rfl)
                · skip
                  have k3 : k + 1 ≤ c0 := (nI_leI (by omega) (by omega)).mp c_100
                  refine lv_aload_n hx hb dX9_goThree_103 rfl (lv_at hl 0 rfl) ?_
                  refine m_get (ci := 9) (C := RX9) (T := TX9) (N := 18) (v := v 5) hx hb hts in_X9 hown hK hM hR rfl 5 (by decide) fl_23 (fun _ h => h) rfl dX9_goThree_104 ?_
                  refine tpv (hv5) ?_
                  refine lv_iload hx hb dX9_goThree_107 (lv_at hl 4 rfl) ?_
                  refine lv_iload hx hb dX9_goThree_109 (lv_at hl 6 rfl) ?_
                  refine lv_isub hx hb dX9_goThree_111 ?_
                  refine tpi (x' := nI (1331 * bN mi + n3 a b c0 - (k + 1))) (nI_sub (by omega)) ?_
                  refine m_zaldN (k := 1331 * bN mi + n3 a b c0 - (k + 1)) hx hb hK hM hth (rfl) (by omega) (by decide) dX9_goThree_112 ?_
                  refine tpi (x' := bI (!l3 mi (n3 a b c0 - (k + 1)))) (by rw [show 1331 * bN mi + n3 a b c0 - (k + 1) = 1331 * bN mi + (n3 a b c0 - (k + 1)) by omega]; exact hup _ (by omega) (by omega)) ?_
                  refine bz_eq (tgt := 153) hx hb dX9_goThree_113 (by decide) (fun c_113 n_113 => ?_) (fun c_113 n_113 => ?_)
                  · skip
                    have l3_ := bI_n0 c_113
                    refine lv_iconst (v := 1) hx hb dX9_goThree_153 (by decide) ?_
                    refine tpi (x' := bI true) (rfl) ?_
                    refine lv_goto (tgt := 158) hx hb dX9_goThree_154 (by decide) ?_
                    exact j_158 true _ (by rw [hcn]; unfold s3; first | (simp [k1, k2, k3, l3_]; done) | omega) (lv_sub hl [0, 1, 2, 3, 4, 5, 6] rfl)
                  · skip
                    have l3_ := bI_nn0 c_113
                    refine lv_iload hx hb dX9_goThree_116 (lv_at hl 6 rfl) ?_
                    refine lv_iload_n hx hb dX9_goThree_118 rfl (lv_at hl 1 rfl) ?_
                    refine bi_gt (tgt := 157) hx hb dX9_goThree_119 (by decide) (fun c_119 n_119 => ?_) (fun c_119 n_119 => ?_)
                    · skip
                      have k4 : ¬ k + 1 ≤ a := fun q => absurd ((nI_ltI (by omega) (by omega)).mp c_119) (by omega)
                      refine lv_iconst (v := 0) hx hb dX9_goThree_157 (by decide) ?_
                      refine tpi (x' := bI false) (rfl) ?_
                      exact j_158 false _ (by rw [hcn]; unfold s3; first | (simp [k1, k2, k3, l3_, k4]; done) | omega) (lv_sub hl [0, 1, 2, 3, 4, 5, 6] rfl)
                    · skip
                      have k4 : k + 1 ≤ a := (nI_leI (by omega) (by omega)).mp c_119
                      refine lv_iload hx hb dX9_goThree_122 (lv_at hl 6 rfl) ?_
                      refine lv_iload hx hb dX9_goThree_124 (lv_at hl 2 rfl) ?_
                      refine bi_gt (tgt := 157) hx hb dX9_goThree_126 (by decide) (fun c_126 n_126 => ?_) (fun c_126 n_126 => ?_)
                      · skip
                        have k5 : ¬ k + 1 ≤ b := fun q => absurd ((nI_ltI (by omega) (by omega)).mp c_126) (by omega)
                        refine lv_iconst (v := 0) hx hb dX9_goThree_157 (by decide) ?_
                        refine tpi (x' := bI false) (rfl) ?_
                        exact j_158 false _ (by rw [hcn]; unfold s3; first | (simp [k1, k2, k3, l3_, k4, k5]; done) | omega) (lv_sub hl [0, 1, 2, 3, 4, 5, 6] rfl)
                      · skip
                        have k5 : k + 1 ≤ b := (nI_leI (by omega) (by omega)).mp c_126
                        refine lv_iload hx hb dX9_goThree_129 (lv_at hl 6 rfl) ?_
                        refine lv_iload hx hb dX9_goThree_131 (lv_at hl 3 rfl) ?_
                        refine bi_gt (tgt := 157) hx hb dX9_goThree_133 (by decide) (fun c_133 n_133 => ?_) (fun c_133 n_133 => ?_)
                        · skip
                          have k6 : ¬ k + 1 ≤ c0 := fun q => absurd ((nI_ltI (by omega) (by omega)).mp c_133) (by omega)
                          refine lv_iconst (v := 0) hx hb dX9_goThree_157 (by decide) ?_
                          refine tpi (x' := bI false) (rfl) ?_
                          exact j_158 false _ (by rw [hcn]; unfold s3; first | (simp [k1, k2, k3, l3_, k4, k5, k6]; done) | omega) (lv_sub hl [0, 1, 2, 3, 4, 5, 6] rfl)
                        · skip
                          have k6 : k + 1 ≤ c0 := (nI_leI (by omega) (by omega)).mp c_133
                          refine lv_aload_n hx hb dX9_goThree_136 rfl (lv_at hl 0 rfl) ?_
                          refine m_get (ci := 9) (C := RX9) (T := TX9) (N := 18) (v := v 5) hx hb hts in_X9 hown hK hM hR rfl 5 (by decide) fl_23 (fun _ h => h) rfl dX9_goThree_137 ?_
                          refine tpv (hv5) ?_
                          refine lv_iload hx hb dX9_goThree_140 (lv_at hl 4 rfl) ?_
                          refine lv_sipush (v := 133) hx hb dX9_goThree_142 (by decide) ?_
                          refine lv_iload hx hb dX9_goThree_145 (lv_at hl 6 rfl) ?_
                          refine lv_imul hx hb dX9_goThree_147 ?_
                          refine tpi (x' := nI (133 * (k + 1))) (pk_mul 133 _) ?_
                          refine lv_isub hx hb dX9_goThree_148 ?_
                          refine tpi (x' := nI (1331 * bN mi + n3 a b c0 - 133 * (k + 1))) (nI_sub (by omega)) ?_
                          refine m_zaldN (k := 1331 * bN mi + n3 a b c0 - 133 * (k + 1)) hx hb hK hM hth (rfl) (by omega) (by decide) dX9_goThree_149 ?_
                          refine tpi (x' := bI (!l3 mi (n3 a b c0 - 133 * (k + 1)))) (by rw [show 1331 * bN mi + n3 a b c0 - 133 * (k + 1) = 1331 * bN mi + (n3 a b c0 - 133 * (k + 1)) by omega]; exact hup _ (by omega) (by omega)) ?_
                          refine bz_ne (tgt := 157) hx hb dX9_goThree_150 (by decide) (fun c_150 n_150 => ?_) (fun c_150 n_150 => ?_)
                          · skip
                            have l4 := bI_nn0 c_150
                            refine lv_iconst (v := 0) hx hb dX9_goThree_157 (by decide) ?_
                            refine tpi (x' := bI false) (rfl) ?_
                            exact j_158 false _ (by rw [hcn]; unfold s3; first | (simp [k1, k2, k3, l3_, k4, k5, k6, l4]; done) | omega) (lv_sub hl [0, 1, 2, 3, 4, 5, 6] rfl)
                          · skip
                            have l4 := bI_n0 c_150
                            refine lv_iconst (v := 1) hx hb dX9_goThree_153 (by decide) ?_
                            refine tpi (x' := bI true) (rfl) ?_
                            refine lv_goto (tgt := 158) hx hb dX9_goThree_154 (by decide) ?_
                            exact j_158 true _ (by rw [hcn]; unfold s3; first | (simp [k1, k2, k3, l3_, k4, k5, k6, l4]; done) | omega) (lv_sub hl [0, 1, 2, 3, 4, 5, 6] rfl)
              · skip
                have k2 : k + 1 ≤ b := (nI_leI (by omega) (by omega)).mp c_77
                refine lv_aload_n hx hb dX9_goThree_80 rfl (lv_at hl 0 rfl) ?_
                refine m_get (ci := 9) (C := RX9) (T := TX9) (N := 18) (v := v 5) hx hb hts in_X9 hown hK hM hR rfl 5 (by decide) fl_23 (fun _ h => h) rfl dX9_goThree_81 ?_
                refine tpv (hv5) ?_
                refine lv_iload hx hb dX9_goThree_84 (lv_at hl 4 rfl) ?_
                refine lv_bipush (v := 11) hx hb dX9_goThree_86 (by decide) ?_
                refine lv_iload hx hb dX9_goThree_88 (lv_at hl 6 rfl) ?_
                refine lv_imul hx hb dX9_goThree_90 ?_
                refine tpi (x' := nI (11 * (k + 1))) (pk_mul 11 _) ?_
                refine lv_isub hx hb dX9_goThree_91 ?_
                refine tpi (x' := nI (1331 * bN mi + n3 a b c0 - 11 * (k + 1))) (nI_sub (by omega)) ?_
                refine m_zaldN (k := 1331 * bN mi + n3 a b c0 - 11 * (k + 1)) hx hb hK hM hth (rfl) (by omega) (by decide) dX9_goThree_92 ?_
                refine tpi (x' := bI (!l3 mi (n3 a b c0 - 11 * (k + 1)))) (by rw [show 1331 * bN mi + n3 a b c0 - 11 * (k + 1) = 1331 * bN mi + (n3 a b c0 - 11 * (k + 1)) by omega]; exact hup _ (by omega) (by omega)) ?_
                refine bz_eq (tgt := 153) hx hb dX9_goThree_93 (by decide) (fun c_93 n_93 => ?_) (fun c_93 n_93 => ?_)
                · skip
                  have l2 := bI_n0 c_93
                  refine lv_iconst (v := 1) hx hb dX9_goThree_153 (by decide) ?_
                  refine tpi (x' := bI true) (rfl) ?_
                  refine lv_goto (tgt := 158) hx hb dX9_goThree_154 (by decide) ?_
                  exact j_158 true _ (by rw [hcn]; unfold s3; first | (simp [k1, k2, l2]; done) | omega) (lv_sub hl [0, 1, 2, 3, 4, 5, 6] rfl)
                · skip
                  have l2 := bI_nn0 c_93
                  refine lv_iload hx hb dX9_goThree_96 (lv_at hl 6 rfl) ?_
                  refine lv_iload hx hb dX9_goThree_98 (lv_at hl 3 rfl) ?_
                  refine bi_gt (tgt := 116) hx hb dX9_goThree_100 (by decide) (fun c_100 n_100 => ?_) (fun c_100 n_100 => ?_)
                  · skip
                    have k3 : ¬ k + 1 ≤ c0 := fun q => absurd ((nI_ltI (by omega) (by omega)).mp c_100) (by omega)
                    refine lv_iload hx hb dX9_goThree_116 (lv_at hl 6 rfl) ?_
                    refine lv_iload_n hx hb dX9_goThree_118 rfl (lv_at hl 1 rfl) ?_
                    refine bi_gt (tgt := 157) hx hb dX9_goThree_119 (by decide) (fun c_119 n_119 => ?_) (fun c_119 n_119 => ?_)
                    · skip
                      have k4 : ¬ k + 1 ≤ a := fun q => absurd ((nI_ltI (by omega) (by omega)).mp c_119) (by omega)
                      refine lv_iconst (v := 0) hx hb dX9_goThree_157 (by decide) ?_
                      refine tpi (x' := bI false) (rfl) ?_
                      exact j_158 false _ (by rw [hcn]; unfold s3; first | (simp [k1, k2, l2, k3, k4]; done) | omega) (lv_sub hl [0, 1, 2, 3, 4, 5, 6] rfl)
                    · skip
                      have k4 : k + 1 ≤ a := (nI_leI (by omega) (by omega)).mp c_119
                      refine lv_iload hx hb dX9_goThree_122 (lv_at hl 6 rfl) ?_
                      refine lv_iload hx hb dX9_goThree_124 (lv_at hl 2 rfl) ?_
                      refine bi_gt (tgt := 157) hx hb dX9_goThree_126 (by decide) (fun c_126 n_126 => ?_) (fun c_126 n_126 => ?_)
                      · skip
                        have k5 : ¬ k + 1 ≤ b := fun q => absurd ((nI_ltI (by omega) (by omega)).mp c_126) (by omega)
                        refine lv_iconst (v := 0) hx hb dX9_goThree_157 (by decide) ?_
                        refine tpi (x' := bI false) (rfl) ?_
                        exact j_158 false _ (by rw [hcn]; unfold s3; first | (simp [k1, k2, l2, k3, k4, k5]; done) | omega) (lv_sub hl [0, 1, 2, 3, 4, 5, 6] rfl)
                      · skip
                        have k5 : k + 1 ≤ b := (nI_leI (by omega) (by omega)).mp c_126
                        refine lv_iload hx hb dX9_goThree_129 (lv_at hl 6 rfl) ?_
                        refine lv_iload hx hb dX9_goThree_131 (lv_at hl 3 rfl) ?_
                        refine bi_gt (tgt := 157) hx hb dX9_goThree_133 (by decide) (fun c_133 n_133 => ?_) (fun c_133 n_133 => ?_)
                        · skip
                          have k6 : ¬ k + 1 ≤ c0 := fun q => absurd ((nI_ltI (by omega) (by omega)).mp c_133) (by omega)
                          refine lv_iconst (v := 0) hx hb dX9_goThree_157 (by decide) ?_
                          refine tpi (x' := bI false) (rfl) ?_
                          exact j_158 false _ (by rw [hcn]; unfold s3; first | (simp [k1, k2, l2, k3, k4, k5, k6]; done) | omega) (lv_sub hl [0, 1, 2, 3, 4, 5, 6] rfl)
                        · skip
                          have k6 : k + 1 ≤ c0 := (nI_leI (by omega) (by omega)).mp c_133
                          refine lv_aload_n hx hb dX9_goThree_136 rfl (lv_at hl 0 rfl) ?_
                          refine m_get (ci := 9) (C := RX9) (T := TX9) (N := 18) (v := v 5) hx hb hts in_X9 hown hK hM hR rfl 5 (by decide) fl_23 (fun _ h => h) rfl dX9_goThree_137 ?_
                          refine tpv (hv5) ?_
                          refine lv_iload hx hb dX9_goThree_140 (lv_at hl 4 rfl) ?_
                          refine lv_sipush (v := 133) hx hb dX9_goThree_142 (by decide) ?_
                          refine lv_iload hx hb dX9_goThree_145 (lv_at hl 6 rfl) ?_
                          refine lv_imul hx hb dX9_goThree_147 ?_
                          refine tpi (x' := nI (133 * (k + 1))) (pk_mul 133 _) ?_
                          refine lv_isub hx hb dX9_goThree_148 ?_
                          refine tpi (x' := nI (1331 * bN mi + n3 a b c0 - 133 * (k + 1))) (nI_sub (by omega)) ?_
                          refine m_zaldN (k := 1331 * bN mi + n3 a b c0 - 133 * (k + 1)) hx hb hK hM hth (rfl) (by omega) (by decide) dX9_goThree_149 ?_
                          refine tpi (x' := bI (!l3 mi (n3 a b c0 - 133 * (k + 1)))) (by rw [show 1331 * bN mi + n3 a b c0 - 133 * (k + 1) = 1331 * bN mi + (n3 a b c0 - 133 * (k + 1)) by omega]; exact hup _ (by omega) (by omega)) ?_
                          refine bz_ne (tgt := 157) hx hb dX9_goThree_150 (by decide) (fun c_150 n_150 => ?_) (fun c_150 n_150 => ?_)
                          · skip
                            have l4 := bI_nn0 c_150
                            refine lv_iconst (v := 0) hx hb dX9_goThree_157 (by decide) ?_
                            refine tpi (x' := bI false) (rfl) ?_
                            exact j_158 false _ (by rw [hcn]; unfold s3; first | (simp [k1, k2, l2, k3, k4, k5, k6, l4]; done) | omega) (lv_sub hl [0, 1, 2, 3, 4, 5, 6] rfl)
                          · skip
                            have l4 := bI_n0 c_150
                            refine lv_iconst (v := 1) hx hb dX9_goThree_153 (by decide) ?_
                            refine tpi (x' := bI true) (rfl) ?_
                            refine lv_goto (tgt := 158) hx hb dX9_goThree_154 (by decide) ?_
                            exact j_158 true _ (by rw [hcn]; unfold s3; first | (simp [k1, k2, l2, k3, k4, k5, k6, l4]; done) | omega) (lv_sub hl [0, 1, 2, 3, 4, 5, 6] rfl)
                  · skip
                    have k3 : k + 1 ≤ c0 := (nI_leI (by omega) (by omega)).mp c_100
                    refine lv_aload_n hx hb dX9_goThree_103 rfl (lv_at hl 0 rfl) ?_
                    refine m_get (ci := 9) (C := RX9) (T := TX9) (N := 18) (v := v 5) hx hb hts in_X9 hown hK hM hR rfl 5 (by decide) fl_23 (fun _ h => h) rfl dX9_goThree_104 ?_
                    refine tpv (hv5) ?_
                    refine lv_iload hx hb dX9_goThree_107 (lv_at hl 4 rfl) ?_
                    refine lv_iload hx hb dX9_goThree_109 (lv_at hl 6 rfl) ?_
                    refine lv_isub hx hb dX9_goThree_111 ?_
                    refine tpi (x' := nI (1331 * bN mi + n3 a b c0 - (k + 1))) (nI_sub (by omega)) ?_
                    refine m_zaldN (k := 1331 * bN mi + n3 a b c0 - (k + 1)) hx hb hK hM hth (rfl) (by omega) (by decide) dX9_goThree_112 ?_
                    refine tpi (x' := bI (!l3 mi (n3 a b c0 - (k + 1)))) (by rw [show 1331 * bN mi + n3 a b c0 - (k + 1) = 1331 * bN mi + (n3 a b c0 - (k + 1)) by omega]; exact hup _ (by omega) (by omega)) ?_
                    refine bz_eq (tgt := 153) hx hb dX9_goThree_113 (by decide) (fun c_113 n_113 => ?_) (fun c_113 n_113 => ?_)
                    · skip
                      have l3_ := bI_n0 c_113
                      refine lv_iconst (v := 1) hx hb dX9_goThree_153 (by decide) ?_
                      refine tpi (x' := bI true) (rfl) ?_
                      refine lv_goto (tgt := 158) hx hb dX9_goThree_154 (by decide) ?_
                      exact j_158 true _ (by rw [hcn]; unfold s3; first | (simp [k1, k2, l2, k3, l3_]; done) | omega) (lv_sub hl [0, 1, 2, 3, 4, 5, 6] rfl)
                    · skip
                      have l3_ := bI_nn0 c_113
                      refine lv_iload hx hb dX9_goThree_116 (lv_at hl 6 rfl) ?_
                      refine lv_iload_n hx hb dX9_goThree_118 rfl (lv_at hl 1 rfl) ?_
                      refine bi_gt (tgt := 157) hx hb dX9_goThree_119 (by decide) (fun c_119 n_119 => ?_) (fun c_119 n_119 => ?_)
                      · skip
                        have k4 : ¬ k + 1 ≤ a := fun q => absurd ((nI_ltI (by omega) (by omega)).mp c_119) (by omega)
                        refine lv_iconst (v := 0) hx hb dX9_goThree_157 (by decide) ?_
                        refine tpi (x' := bI false) (rfl) ?_
                        exact j_158 false _ (by rw [hcn]; unfold s3; first | (simp [k1, k2, l2, k3, l3_, k4]; done) | omega) (lv_sub hl [0, 1, 2, 3, 4, 5, 6] rfl)
                      · skip
                        have k4 : k + 1 ≤ a := (nI_leI (by omega) (by omega)).mp c_119
                        refine lv_iload hx hb dX9_goThree_122 (lv_at hl 6 rfl) ?_
                        refine lv_iload hx hb dX9_goThree_124 (lv_at hl 2 rfl) ?_
                        refine bi_gt (tgt := 157) hx hb dX9_goThree_126 (by decide) (fun c_126 n_126 => ?_) (fun c_126 n_126 => ?_)
                        · skip
                          have k5 : ¬ k + 1 ≤ b := fun q => absurd ((nI_ltI (by omega) (by omega)).mp c_126) (by omega)
                          refine lv_iconst (v := 0) hx hb dX9_goThree_157 (by decide) ?_
                          refine tpi (x' := bI false) (rfl) ?_
                          exact j_158 false _ (by rw [hcn]; unfold s3; first | (simp [k1, k2, l2, k3, l3_, k4, k5]; done) | omega) (lv_sub hl [0, 1, 2, 3, 4, 5, 6] rfl)
                        · skip
                          have k5 : k + 1 ≤ b := (nI_leI (by omega) (by omega)).mp c_126
                          refine lv_iload hx hb dX9_goThree_129 (lv_at hl 6 rfl) ?_
                          refine lv_iload hx hb dX9_goThree_131 (lv_at hl 3 rfl) ?_
                          refine bi_gt (tgt := 157) hx hb dX9_goThree_133 (by decide) (fun c_133 n_133 => ?_) (fun c_133 n_133 => ?_)
                          · skip
                            have k6 : ¬ k + 1 ≤ c0 := fun q => absurd ((nI_ltI (by omega) (by omega)).mp c_133) (by omega)
                            refine lv_iconst (v := 0) hx hb dX9_goThree_157 (by decide) ?_
                            refine tpi (x' := bI false) (rfl) ?_
                            exact j_158 false _ (by rw [hcn]; unfold s3; first | (simp [k1, k2, l2, k3, l3_, k4, k5, k6]; done) | omega) (lv_sub hl [0, 1, 2, 3, 4, 5, 6] rfl)
                          · skip
                            have k6 : k + 1 ≤ c0 := (nI_leI (by omega) (by omega)).mp c_133
                            refine lv_aload_n hx hb dX9_goThree_136 rfl (lv_at hl 0 rfl) ?_
                            refine m_get (ci := 9) (C := RX9) (T := TX9) (N := 18) (v := v 5) hx hb hts in_X9 hown hK hM hR rfl 5 (by decide) fl_23 (fun _ h => h) rfl dX9_goThree_137 ?_
                            refine tpv (hv5) ?_
                            refine lv_iload hx hb dX9_goThree_140 (lv_at hl 4 rfl) ?_
                            refine lv_sipush (v := 133) hx hb dX9_goThree_142 (by decide) ?_
                            refine lv_iload hx hb dX9_goThree_145 (lv_at hl 6 rfl) ?_
                            refine lv_imul hx hb dX9_goThree_147 ?_
                            refine tpi (x' := nI (133 * (k + 1))) (pk_mul 133 _) ?_
                            refine lv_isub hx hb dX9_goThree_148 ?_
                            refine tpi (x' := nI (1331 * bN mi + n3 a b c0 - 133 * (k + 1))) (nI_sub (by omega)) ?_
                            refine m_zaldN (k := 1331 * bN mi + n3 a b c0 - 133 * (k + 1)) hx hb hK hM hth (rfl) (by omega) (by decide) dX9_goThree_149 ?_
                            refine tpi (x' := bI (!l3 mi (n3 a b c0 - 133 * (k + 1)))) (by rw [show 1331 * bN mi + n3 a b c0 - 133 * (k + 1) = 1331 * bN mi + (n3 a b c0 - 133 * (k + 1)) by omega]; exact hup _ (by omega) (by omega)) ?_
                            refine bz_ne (tgt := 157) hx hb dX9_goThree_150 (by decide) (fun c_150 n_150 => ?_) (fun c_150 n_150 => ?_)
                            · skip
                              have l4 := bI_nn0 c_150
                              refine lv_iconst (v := 0) hx hb dX9_goThree_157 (by decide) ?_
                              refine tpi (x' := bI false) (rfl) ?_
                              exact j_158 false _ (by rw [hcn]; unfold s3; first | (simp [k1, k2, l2, k3, l3_, k4, k5, k6, l4]; done) | omega) (lv_sub hl [0, 1, 2, 3, 4, 5, 6] rfl)
                            · skip
                              have l4 := bI_n0 c_150
                              refine lv_iconst (v := 1) hx hb dX9_goThree_153 (by decide) ?_
                              refine tpi (x' := bI true) (rfl) ?_
                              refine lv_goto (tgt := 158) hx hb dX9_goThree_154 (by decide) ?_
                              exact j_158 true _ (by rw [hcn]; unfold s3; first | (simp [k1, k2, l2, k3, l3_, k4, k5, k6, l4]; done) | omega) (lv_sub hl [0, 1, 2, 3, 4, 5, 6] rfl)
            · skip
              have k1 : k + 1 ≤ a := (nI_leI (by omega) (by omega)).mp c_54
              refine lv_aload_n hx hb dX9_goThree_57 rfl (lv_at hl 0 rfl) ?_
              refine m_get (ci := 9) (C := RX9) (T := TX9) (N := 18) (v := v 5) hx hb hts in_X9 hown hK hM hR rfl 5 (by decide) fl_23 (fun _ h => h) rfl dX9_goThree_58 ?_
              refine tpv (hv5) ?_
              refine lv_iload hx hb dX9_goThree_61 (lv_at hl 4 rfl) ?_
              refine lv_bipush (v := 121) hx hb dX9_goThree_63 (by decide) ?_
              refine lv_iload hx hb dX9_goThree_65 (lv_at hl 6 rfl) ?_
              refine lv_imul hx hb dX9_goThree_67 ?_
              refine tpi (x' := nI (121 * (k + 1))) (pk_mul 121 _) ?_
              refine lv_isub hx hb dX9_goThree_68 ?_
              refine tpi (x' := nI (1331 * bN mi + n3 a b c0 - 121 * (k + 1))) (nI_sub (by omega)) ?_
              refine m_zaldN (k := 1331 * bN mi + n3 a b c0 - 121 * (k + 1)) hx hb hK hM hth (rfl) (by omega) (by decide) dX9_goThree_69 ?_
              refine tpi (x' := bI (!l3 mi (n3 a b c0 - 121 * (k + 1)))) (by rw [show 1331 * bN mi + n3 a b c0 - 121 * (k + 1) = 1331 * bN mi + (n3 a b c0 - 121 * (k + 1)) by omega]; exact hup _ (by omega) (by omega)) ?_
              refine bz_eq (tgt := 153) hx hb dX9_goThree_70 (by decide) (fun c_70 n_70 => ?_) (fun c_70 n_70 => ?_)
              · skip
                have l1 := bI_n0 c_70
                refine lv_iconst (v := 1) hx hb dX9_goThree_153 (by decide) ?_
                refine tpi (x' := bI true) (rfl) ?_
                refine lv_goto (tgt := 158) hx hb dX9_goThree_154 (by decide) ?_
                exact j_158 true _ (by rw [hcn]; unfold s3; first | (simp [k1, l1]; done) | omega) (lv_sub hl [0, 1, 2, 3, 4, 5, 6] rfl)
              · skip
                have l1 := bI_nn0 c_70
                refine lv_iload hx hb dX9_goThree_73 (lv_at hl 6 rfl) ?_
                refine lv_iload hx hb dX9_goThree_75 (lv_at hl 2 rfl) ?_
                refine bi_gt (tgt := 96) hx hb dX9_goThree_77 (by decide) (fun c_77 n_77 => ?_) (fun c_77 n_77 => ?_)
                · skip
                  have k2 : ¬ k + 1 ≤ b := fun q => absurd ((nI_ltI (by omega) (by omega)).mp c_77) (by omega)
                  refine lv_iload hx hb dX9_goThree_96 (lv_at hl 6 rfl) ?_
                  refine lv_iload hx hb dX9_goThree_98 (lv_at hl 3 rfl) ?_
                  refine bi_gt (tgt := 116) hx hb dX9_goThree_100 (by decide) (fun c_100 n_100 => ?_) (fun c_100 n_100 => ?_)
                  · skip
                    have k3 : ¬ k + 1 ≤ c0 := fun q => absurd ((nI_ltI (by omega) (by omega)).mp c_100) (by omega)
                    refine lv_iload hx hb dX9_goThree_116 (lv_at hl 6 rfl) ?_
                    refine lv_iload_n hx hb dX9_goThree_118 rfl (lv_at hl 1 rfl) ?_
                    refine bi_gt (tgt := 157) hx hb dX9_goThree_119 (by decide) (fun c_119 n_119 => ?_) (fun c_119 n_119 => ?_)
                    · skip
                      have k4 : ¬ k + 1 ≤ a := fun q => absurd ((nI_ltI (by omega) (by omega)).mp c_119) (by omega)
                      refine lv_iconst (v := 0) hx hb dX9_goThree_157 (by decide) ?_
                      refine tpi (x' := bI false) (rfl) ?_
                      exact j_158 false _ (by rw [hcn]; unfold s3; first | (simp [k1, l1, k2, k3, k4]; done) | omega) (lv_sub hl [0, 1, 2, 3, 4, 5, 6] rfl)
                    · skip
                      have k4 : k + 1 ≤ a := (nI_leI (by omega) (by omega)).mp c_119
                      refine lv_iload hx hb dX9_goThree_122 (lv_at hl 6 rfl) ?_
                      refine lv_iload hx hb dX9_goThree_124 (lv_at hl 2 rfl) ?_
                      refine bi_gt (tgt := 157) hx hb dX9_goThree_126 (by decide) (fun c_126 n_126 => ?_) (fun c_126 n_126 => ?_)
                      · skip
                        have k5 : ¬ k + 1 ≤ b := fun q => absurd ((nI_ltI (by omega) (by omega)).mp c_126) (by omega)
                        refine lv_iconst (v := 0) hx hb dX9_goThree_157 (by decide) ?_
                        refine tpi (x' := bI false) (rfl) ?_
                        exact j_158 false _ (by rw [hcn]; unfold s3; first | (simp [k1, l1, k2, k3, k4, k5]; done) | omega) (lv_sub hl [0, 1, 2, 3, 4, 5, 6] rfl)
                      · skip
                        have k5 : k + 1 ≤ b := (nI_leI (by omega) (by omega)).mp c_126
                        refine lv_iload hx hb dX9_goThree_129 (lv_at hl 6 rfl) ?_
                        refine lv_iload hx hb dX9_goThree_131 (lv_at hl 3 rfl) ?_
                        refine bi_gt (tgt := 157) hx hb dX9_goThree_133 (by decide) (fun c_133 n_133 => ?_) (fun c_133 n_133 => ?_)
                        · skip
                          have k6 : ¬ k + 1 ≤ c0 := fun q => absurd ((nI_ltI (by omega) (by omega)).mp c_133) (by omega)
                          refine lv_iconst (v := 0) hx hb dX9_goThree_157 (by decide) ?_
                          refine tpi (x' := bI false) (rfl) ?_
                          exact j_158 false _ (by rw [hcn]; unfold s3; first | (simp [k1, l1, k2, k3, k4, k5, k6]; done) | omega) (lv_sub hl [0, 1, 2, 3, 4, 5, 6] rfl)
                        · skip
                          have k6 : k + 1 ≤ c0 := (nI_leI (by omega) (by omega)).mp c_133
                          refine lv_aload_n hx hb dX9_goThree_136 rfl (lv_at hl 0 rfl) ?_
                          refine m_get (ci := 9) (C := RX9) (T := TX9) (N := 18) (v := v 5) hx hb hts in_X9 hown hK hM hR rfl 5 (by decide) fl_23 (fun _ h => h) rfl dX9_goThree_137 ?_
                          refine tpv (hv5) ?_
                          refine lv_iload hx hb dX9_goThree_140 (lv_at hl 4 rfl) ?_
                          refine lv_sipush (v := 133) hx hb dX9_goThree_142 (by decide) ?_
                          refine lv_iload hx hb dX9_goThree_145 (lv_at hl 6 rfl) ?_
                          refine lv_imul hx hb dX9_goThree_147 ?_
                          refine tpi (x' := nI (133 * (k + 1))) (pk_mul 133 _) ?_
                          refine lv_isub hx hb dX9_goThree_148 ?_
                          refine tpi (x' := nI (1331 * bN mi + n3 a b c0 - 133 * (k + 1))) (nI_sub (by omega)) ?_
                          refine m_zaldN (k := 1331 * bN mi + n3 a b c0 - 133 * (k + 1)) hx hb hK hM hth (rfl) (by omega) (by decide) dX9_goThree_149 ?_
                          refine tpi (x' := bI (!l3 mi (n3 a b c0 - 133 * (k + 1)))) (by rw [show 1331 * bN mi + n3 a b c0 - 133 * (k + 1) = 1331 * bN mi + (n3 a b c0 - 133 * (k + 1)) by omega]; exact hup _ (by omega) (by omega)) ?_
                          refine bz_ne (tgt := 157) hx hb dX9_goThree_150 (by decide) (fun c_150 n_150 => ?_) (fun c_150 n_150 => ?_)
                          · skip
                            have l4 := bI_nn0 c_150
                            refine lv_iconst (v := 0) hx hb dX9_goThree_157 (by decide) ?_
                            refine tpi (x' := bI false) (rfl) ?_
                            exact j_158 false _ (by rw [hcn]; unfold s3; first | (simp [k1, l1, k2, k3, k4, k5, k6, l4]; done) | omega) (lv_sub hl [0, 1, 2, 3, 4, 5, 6] rfl)
                          · skip
                            have l4 := bI_n0 c_150
                            refine lv_iconst (v := 1) hx hb dX9_goThree_153 (by decide) ?_
                            refine tpi (x' := bI true) (rfl) ?_
                            refine lv_goto (tgt := 158) hx hb dX9_goThree_154 (by decide) ?_
                            exact j_158 true _ (by rw [hcn]; unfold s3; first | (simp [k1, l1, k2, k3, k4, k5, k6, l4]; done) | omega) (lv_sub hl [0, 1, 2, 3, 4, 5, 6] rfl)
                  · skip
                    have k3 : k + 1 ≤ c0 := (nI_leI (by omega) (by omega)).mp c_100
                    refine lv_aload_n hx hb dX9_goThree_103 rfl (lv_at hl 0 rfl) ?_
                    refine m_get (ci := 9) (C := RX9) (T := TX9) (N := 18) (v := v 5) hx hb hts in_X9 hown hK hM hR rfl 5 (by decide) fl_23 (fun _ h => h) rfl dX9_goThree_104 ?_
                    refine tpv (hv5) ?_
                    refine lv_iload hx hb dX9_goThree_107 (lv_at hl 4 rfl) ?_
                    refine lv_iload hx hb dX9_goThree_109 (lv_at hl 6 rfl) ?_
                    refine lv_isub hx hb dX9_goThree_111 ?_
                    refine tpi (x' := nI (1331 * bN mi + n3 a b c0 - (k + 1))) (nI_sub (by omega)) ?_
                    refine m_zaldN (k := 1331 * bN mi + n3 a b c0 - (k + 1)) hx hb hK hM hth (rfl) (by omega) (by decide) dX9_goThree_112 ?_
                    refine tpi (x' := bI (!l3 mi (n3 a b c0 - (k + 1)))) (by rw [show 1331 * bN mi + n3 a b c0 - (k + 1) = 1331 * bN mi + (n3 a b c0 - (k + 1)) by omega]; exact hup _ (by omega) (by omega)) ?_
                    refine bz_eq (tgt := 153) hx hb dX9_goThree_113 (by decide) (fun c_113 n_113 => ?_) (fun c_113 n_113 => ?_)
                    · skip
                      have l3_ := bI_n0 c_113
                      refine lv_iconst (v := 1) hx hb dX9_goThree_153 (by decide) ?_
                      refine tpi (x' := bI true) (rfl) ?_
                      refine lv_goto (tgt := 158) hx hb dX9_goThree_154 (by decide) ?_
                      exact j_158 true _ (by rw [hcn]; unfold s3; first | (simp [k1, l1, k2, k3, l3_]; done) | omega) (lv_sub hl [0, 1, 2, 3, 4, 5, 6] rfl)
                    · skip
                      have l3_ := bI_nn0 c_113
                      refine lv_iload hx hb dX9_goThree_116 (lv_at hl 6 rfl) ?_
                      refine lv_iload_n hx hb dX9_goThree_118 rfl (lv_at hl 1 rfl) ?_
                      refine bi_gt (tgt := 157) hx hb dX9_goThree_119 (by decide) (fun c_119 n_119 => ?_) (fun c_119 n_119 => ?_)
                      · skip
                        have k4 : ¬ k + 1 ≤ a := fun q => absurd ((nI_ltI (by omega) (by omega)).mp c_119) (by omega)
                        refine lv_iconst (v := 0) hx hb dX9_goThree_157 (by decide) ?_
                        refine tpi (x' := bI false) (rfl) ?_
                        exact j_158 false _ (by rw [hcn]; unfold s3; first | (simp [k1, l1, k2, k3, l3_, k4]; done) | omega) (lv_sub hl [0, 1, 2, 3, 4, 5, 6] rfl)
                      · skip
                        have k4 : k + 1 ≤ a := (nI_leI (by omega) (by omega)).mp c_119
                        refine lv_iload hx hb dX9_goThree_122 (lv_at hl 6 rfl) ?_
                        refine lv_iload hx hb dX9_goThree_124 (lv_at hl 2 rfl) ?_
                        refine bi_gt (tgt := 157) hx hb dX9_goThree_126 (by decide) (fun c_126 n_126 => ?_) (fun c_126 n_126 => ?_)
                        · skip
                          have k5 : ¬ k + 1 ≤ b := fun q => absurd ((nI_ltI (by omega) (by omega)).mp c_126) (by omega)
                          refine lv_iconst (v := 0) hx hb dX9_goThree_157 (by decide) ?_
                          refine tpi (x' := bI false) (rfl) ?_
                          exact j_158 false _ (by rw [hcn]; unfold s3; first | (simp [k1, l1, k2, k3, l3_, k4, k5]; done) | omega) (lv_sub hl [0, 1, 2, 3, 4, 5, 6] rfl)
                        · skip
                          have k5 : k + 1 ≤ b := (nI_leI (by omega) (by omega)).mp c_126
                          refine lv_iload hx hb dX9_goThree_129 (lv_at hl 6 rfl) ?_
                          refine lv_iload hx hb dX9_goThree_131 (lv_at hl 3 rfl) ?_
                          refine bi_gt (tgt := 157) hx hb dX9_goThree_133 (by decide) (fun c_133 n_133 => ?_) (fun c_133 n_133 => ?_)
                          · skip
                            have k6 : ¬ k + 1 ≤ c0 := fun q => absurd ((nI_ltI (by omega) (by omega)).mp c_133) (by omega)
                            refine lv_iconst (v := 0) hx hb dX9_goThree_157 (by decide) ?_
                            refine tpi (x' := bI false) (rfl) ?_
                            exact j_158 false _ (by rw [hcn]; unfold s3; first | (simp [k1, l1, k2, k3, l3_, k4, k5, k6]; done) | omega) (lv_sub hl [0, 1, 2, 3, 4, 5, 6] rfl)
                          · skip
                            have k6 : k + 1 ≤ c0 := (nI_leI (by omega) (by omega)).mp c_133
                            refine lv_aload_n hx hb dX9_goThree_136 rfl (lv_at hl 0 rfl) ?_
                            refine m_get (ci := 9) (C := RX9) (T := TX9) (N := 18) (v := v 5) hx hb hts in_X9 hown hK hM hR rfl 5 (by decide) fl_23 (fun _ h => h) rfl dX9_goThree_137 ?_
                            refine tpv (hv5) ?_
                            refine lv_iload hx hb dX9_goThree_140 (lv_at hl 4 rfl) ?_
                            refine lv_sipush (v := 133) hx hb dX9_goThree_142 (by decide) ?_
                            refine lv_iload hx hb dX9_goThree_145 (lv_at hl 6 rfl) ?_
                            refine lv_imul hx hb dX9_goThree_147 ?_
                            refine tpi (x' := nI (133 * (k + 1))) (pk_mul 133 _) ?_
                            refine lv_isub hx hb dX9_goThree_148 ?_
                            refine tpi (x' := nI (1331 * bN mi + n3 a b c0 - 133 * (k + 1))) (nI_sub (by omega)) ?_
                            refine m_zaldN (k := 1331 * bN mi + n3 a b c0 - 133 * (k + 1)) hx hb hK hM hth (rfl) (by omega) (by decide) dX9_goThree_149 ?_
                            refine tpi (x' := bI (!l3 mi (n3 a b c0 - 133 * (k + 1)))) (by rw [show 1331 * bN mi + n3 a b c0 - 133 * (k + 1) = 1331 * bN mi + (n3 a b c0 - 133 * (k + 1)) by omega]; exact hup _ (by omega) (by omega)) ?_
                            refine bz_ne (tgt := 157) hx hb dX9_goThree_150 (by decide) (fun c_150 n_150 => ?_) (fun c_150 n_150 => ?_)
                            · skip
                              have l4 := bI_nn0 c_150
                              refine lv_iconst (v := 0) hx hb dX9_goThree_157 (by decide) ?_
                              refine tpi (x' := bI false) (rfl) ?_
                              exact j_158 false _ (by rw [hcn]; unfold s3; first | (simp [k1, l1, k2, k3, l3_, k4, k5, k6, l4]; done) | omega) (lv_sub hl [0, 1, 2, 3, 4, 5, 6] rfl)
                            · skip
                              have l4 := bI_n0 c_150
                              refine lv_iconst (v := 1) hx hb dX9_goThree_153 (by decide) ?_
                              refine tpi (x' := bI true) (rfl) ?_
                              refine lv_goto (tgt := 158) hx hb dX9_goThree_154 (by decide) ?_
                              exact j_158 true _ (by rw [hcn]; unfold s3; first | (simp [k1, l1, k2, k3, l3_, k4, k5, k6, l4]; done) | omega) (lv_sub hl [0, 1, 2, 3, 4, 5, 6] rfl)
                · skip
                  have k2 : k + 1 ≤ b := (nI_leI (by omega) (by omega)).mp c_77
                  refine lv_aload_n hx hb dX9_goThree_80 rfl (lv_at hl 0 rfl) ?_
                  refine m_get (ci := 9) (C := RX9) (T := TX9) (N := 18) (v := v 5) hx hb hts in_X9 hown hK hM hR rfl 5 (by decide) fl_23 (fun _ h => h) rfl dX9_goThree_81 ?_
                  refine tpv (hv5) ?_
                  refine lv_iload hx hb dX9_goThree_84 (lv_at hl 4 rfl) ?_
                  refine lv_bipush (v := 11) hx hb dX9_goThree_86 (by decide) ?_
                  refine lv_iload hx hb dX9_goThree_88 (lv_at hl 6 rfl) ?_
                  refine lv_imul hx hb dX9_goThree_90 ?_
                  refine tpi (x' := nI (11 * (k + 1))) (pk_mul 11 _) ?_
                  refine lv_isub hx hb dX9_goThree_91 ?_
                  refine tpi (x' := nI (1331 * bN mi + n3 a b c0 - 11 * (k + 1))) (nI_sub (by omega)) ?_
                  refine m_zaldN (k := 1331 * bN mi + n3 a b c0 - 11 * (k + 1)) hx hb hK hM hth (rfl) (by omega) (by decide) dX9_goThree_92 ?_
                  refine tpi (x' := bI (!l3 mi (n3 a b c0 - 11 * (k + 1)))) (by rw [show 1331 * bN mi + n3 a b c0 - 11 * (k + 1) = 1331 * bN mi + (n3 a b c0 - 11 * (k + 1)) by omega]; exact hup _ (by omega) (by omega)) ?_
                  refine bz_eq (tgt := 153) hx hb dX9_goThree_93 (by decide) (fun c_93 n_93 => ?_) (fun c_93 n_93 => ?_)
                  · skip
                    have l2 := bI_n0 c_93
                    refine lv_iconst (v := 1) hx hb dX9_goThree_153 (by decide) ?_
                    refine tpi (x' := bI true) (rfl) ?_
                    refine lv_goto (tgt := 158) hx hb dX9_goThree_154 (by decide) ?_
                    exact j_158 true _ (by rw [hcn]; unfold s3; first | (simp [k1, l1, k2, l2]; done) | omega) (lv_sub hl [0, 1, 2, 3, 4, 5, 6] rfl)
                  · skip
                    have l2 := bI_nn0 c_93
                    refine lv_iload hx hb dX9_goThree_96 (lv_at hl 6 rfl) ?_
                    refine lv_iload hx hb dX9_goThree_98 (lv_at hl 3 rfl) ?_
                    refine bi_gt (tgt := 116) hx hb dX9_goThree_100 (by decide) (fun c_100 n_100 => ?_) (fun c_100 n_100 => ?_)
                    · skip
                      have k3 : ¬ k + 1 ≤ c0 := fun q => absurd ((nI_ltI (by omega) (by omega)).mp c_100) (by omega)
                      refine lv_iload hx hb dX9_goThree_116 (lv_at hl 6 rfl) ?_
                      refine lv_iload_n hx hb dX9_goThree_118 rfl (lv_at hl 1 rfl) ?_
                      refine bi_gt (tgt := 157) hx hb dX9_goThree_119 (by decide) (fun c_119 n_119 => ?_) (fun c_119 n_119 => ?_)
                      · skip
                        have k4 : ¬ k + 1 ≤ a := fun q => absurd ((nI_ltI (by omega) (by omega)).mp c_119) (by omega)
                        refine lv_iconst (v := 0) hx hb dX9_goThree_157 (by decide) ?_
                        refine tpi (x' := bI false) (rfl) ?_
                        exact j_158 false _ (by rw [hcn]; unfold s3; first | (simp [k1, l1, k2, l2, k3, k4]; done) | omega) (lv_sub hl [0, 1, 2, 3, 4, 5, 6] rfl)
                      · skip
                        have k4 : k + 1 ≤ a := (nI_leI (by omega) (by omega)).mp c_119
                        refine lv_iload hx hb dX9_goThree_122 (lv_at hl 6 rfl) ?_
                        refine lv_iload hx hb dX9_goThree_124 (lv_at hl 2 rfl) ?_
                        refine bi_gt (tgt := 157) hx hb dX9_goThree_126 (by decide) (fun c_126 n_126 => ?_) (fun c_126 n_126 => ?_)
                        · skip
                          have k5 : ¬ k + 1 ≤ b := fun q => absurd ((nI_ltI (by omega) (by omega)).mp c_126) (by omega)
                          refine lv_iconst (v := 0) hx hb dX9_goThree_157 (by decide) ?_
                          refine tpi (x' := bI false) (rfl) ?_
                          exact j_158 false _ (by rw [hcn]; unfold s3; first | (simp [k1, l1, k2, l2, k3, k4, k5]; done) | omega) (lv_sub hl [0, 1, 2, 3, 4, 5, 6] rfl)
                        · skip
                          have k5 : k + 1 ≤ b := (nI_leI (by omega) (by omega)).mp c_126
                          refine lv_iload hx hb dX9_goThree_129 (lv_at hl 6 rfl) ?_
                          refine lv_iload hx hb dX9_goThree_131 (lv_at hl 3 rfl) ?_
                          refine bi_gt (tgt := 157) hx hb dX9_goThree_133 (by decide) (fun c_133 n_133 => ?_) (fun c_133 n_133 => ?_)
                          · skip
                            have k6 : ¬ k + 1 ≤ c0 := fun q => absurd ((nI_ltI (by omega) (by omega)).mp c_133) (by omega)
                            refine lv_iconst (v := 0) hx hb dX9_goThree_157 (by decide) ?_
                            refine tpi (x' := bI false) (rfl) ?_
                            exact j_158 false _ (by rw [hcn]; unfold s3; first | (simp [k1, l1, k2, l2, k3, k4, k5, k6]; done) | omega) (lv_sub hl [0, 1, 2, 3, 4, 5, 6] rfl)
                          · skip
                            have k6 : k + 1 ≤ c0 := (nI_leI (by omega) (by omega)).mp c_133
                            refine lv_aload_n hx hb dX9_goThree_136 rfl (lv_at hl 0 rfl) ?_
                            refine m_get (ci := 9) (C := RX9) (T := TX9) (N := 18) (v := v 5) hx hb hts in_X9 hown hK hM hR rfl 5 (by decide) fl_23 (fun _ h => h) rfl dX9_goThree_137 ?_
                            refine tpv (hv5) ?_
                            refine lv_iload hx hb dX9_goThree_140 (lv_at hl 4 rfl) ?_
                            refine lv_sipush (v := 133) hx hb dX9_goThree_142 (by decide) ?_
                            refine lv_iload hx hb dX9_goThree_145 (lv_at hl 6 rfl) ?_
                            refine lv_imul hx hb dX9_goThree_147 ?_
                            refine tpi (x' := nI (133 * (k + 1))) (pk_mul 133 _) ?_
                            refine lv_isub hx hb dX9_goThree_148 ?_
                            refine tpi (x' := nI (1331 * bN mi + n3 a b c0 - 133 * (k + 1))) (nI_sub (by omega)) ?_
                            refine m_zaldN (k := 1331 * bN mi + n3 a b c0 - 133 * (k + 1)) hx hb hK hM hth (rfl) (by omega) (by decide) dX9_goThree_149 ?_
                            refine tpi (x' := bI (!l3 mi (n3 a b c0 - 133 * (k + 1)))) (by rw [show 1331 * bN mi + n3 a b c0 - 133 * (k + 1) = 1331 * bN mi + (n3 a b c0 - 133 * (k + 1)) by omega]; exact hup _ (by omega) (by omega)) ?_
                            refine bz_ne (tgt := 157) hx hb dX9_goThree_150 (by decide) (fun c_150 n_150 => ?_) (fun c_150 n_150 => ?_)
                            · skip
                              have l4 := bI_nn0 c_150
                              refine lv_iconst (v := 0) hx hb dX9_goThree_157 (by decide) ?_
                              refine tpi (x' := bI false) (rfl) ?_
                              exact j_158 false _ (by rw [hcn]; unfold s3; first | (simp [k1, l1, k2, l2, k3, k4, k5, k6, l4]; done) | omega) (lv_sub hl [0, 1, 2, 3, 4, 5, 6] rfl)
                            · skip
                              have l4 := bI_n0 c_150
                              refine lv_iconst (v := 1) hx hb dX9_goThree_153 (by decide) ?_
                              refine tpi (x' := bI true) (rfl) ?_
                              refine lv_goto (tgt := 158) hx hb dX9_goThree_154 (by decide) ?_
                              exact j_158 true _ (by rw [hcn]; unfold s3; first | (simp [k1, l1, k2, l2, k3, k4, k5, k6, l4]; done) | omega) (lv_sub hl [0, 1, 2, 3, 4, 5, 6] rfl)
                    · skip
                      have k3 : k + 1 ≤ c0 := (nI_leI (by omega) (by omega)).mp c_100
                      refine lv_aload_n hx hb dX9_goThree_103 rfl (lv_at hl 0 rfl) ?_
                      refine m_get (ci := 9) (C := RX9) (T := TX9) (N := 18) (v := v 5) hx hb hts in_X9 hown hK hM hR rfl 5 (by decide) fl_23 (fun _ h => h) rfl dX9_goThree_104 ?_
                      refine tpv (hv5) ?_
                      refine lv_iload hx hb dX9_goThree_107 (lv_at hl 4 rfl) ?_
                      refine lv_iload hx hb dX9_goThree_109 (lv_at hl 6 rfl) ?_
                      refine lv_isub hx hb dX9_goThree_111 ?_
                      refine tpi (x' := nI (1331 * bN mi + n3 a b c0 - (k + 1))) (nI_sub (by omega)) ?_
                      refine m_zaldN (k := 1331 * bN mi + n3 a b c0 - (k + 1)) hx hb hK hM hth (rfl) (by omega) (by decide) dX9_goThree_112 ?_
                      refine tpi (x' := bI (!l3 mi (n3 a b c0 - (k + 1)))) (by rw [show 1331 * bN mi + n3 a b c0 - (k + 1) = 1331 * bN mi + (n3 a b c0 - (k + 1)) by omega]; exact hup _ (by omega) (by omega)) ?_
                      refine bz_eq (tgt := 153) hx hb dX9_goThree_113 (by decide) (fun c_113 n_113 => ?_) (fun c_113 n_113 => ?_)
                      · skip
                        have l3_ := bI_n0 c_113
                        refine lv_iconst (v := 1) hx hb dX9_goThree_153 (by decide) ?_
                        refine tpi (x' := bI true) (rfl) ?_
                        refine lv_goto (tgt := 158) hx hb dX9_goThree_154 (by decide) ?_
                        exact j_158 true _ (by rw [hcn]; unfold s3; first | (simp [k1, l1, k2, l2, k3, l3_]; done) | omega) (lv_sub hl [0, 1, 2, 3, 4, 5, 6] rfl)
                      · skip
                        have l3_ := bI_nn0 c_113
                        refine lv_iload hx hb dX9_goThree_116 (lv_at hl 6 rfl) ?_
                        refine lv_iload_n hx hb dX9_goThree_118 rfl (lv_at hl 1 rfl) ?_
                        refine bi_gt (tgt := 157) hx hb dX9_goThree_119 (by decide) (fun c_119 n_119 => ?_) (fun c_119 n_119 => ?_)
                        · skip
                          have k4 : ¬ k + 1 ≤ a := fun q => absurd ((nI_ltI (by omega) (by omega)).mp c_119) (by omega)
                          refine lv_iconst (v := 0) hx hb dX9_goThree_157 (by decide) ?_
                          refine tpi (x' := bI false) (rfl) ?_
                          exact j_158 false _ (by rw [hcn]; unfold s3; first | (simp [k1, l1, k2, l2, k3, l3_, k4]; done) | omega) (lv_sub hl [0, 1, 2, 3, 4, 5, 6] rfl)
                        · skip
                          have k4 : k + 1 ≤ a := (nI_leI (by omega) (by omega)).mp c_119
                          refine lv_iload hx hb dX9_goThree_122 (lv_at hl 6 rfl) ?_
                          refine lv_iload hx hb dX9_goThree_124 (lv_at hl 2 rfl) ?_
                          refine bi_gt (tgt := 157) hx hb dX9_goThree_126 (by decide) (fun c_126 n_126 => ?_) (fun c_126 n_126 => ?_)
                          · skip
                            have k5 : ¬ k + 1 ≤ b := fun q => absurd ((nI_ltI (by omega) (by omega)).mp c_126) (by omega)
                            refine lv_iconst (v := 0) hx hb dX9_goThree_157 (by decide) ?_
                            refine tpi (x' := bI false) (rfl) ?_
                            exact j_158 false _ (by rw [hcn]; unfold s3; first | (simp [k1, l1, k2, l2, k3, l3_, k4, k5]; done) | omega) (lv_sub hl [0, 1, 2, 3, 4, 5, 6] rfl)
                          · skip
                            have k5 : k + 1 ≤ b := (nI_leI (by omega) (by omega)).mp c_126
                            refine lv_iload hx hb dX9_goThree_129 (lv_at hl 6 rfl) ?_
                            refine lv_iload hx hb dX9_goThree_131 (lv_at hl 3 rfl) ?_
                            refine bi_gt (tgt := 157) hx hb dX9_goThree_133 (by decide) (fun c_133 n_133 => ?_) (fun c_133 n_133 => ?_)
                            · skip
                              have k6 : ¬ k + 1 ≤ c0 := fun q => absurd ((nI_ltI (by omega) (by omega)).mp c_133) (by omega)
                              refine lv_iconst (v := 0) hx hb dX9_goThree_157 (by decide) ?_
                              refine tpi (x' := bI false) (rfl) ?_
                              exact j_158 false _ (by rw [hcn]; unfold s3; first | (simp [k1, l1, k2, l2, k3, l3_, k4, k5, k6]; done) | omega) (lv_sub hl [0, 1, 2, 3, 4, 5, 6] rfl)
                            · skip
                              have k6 : k + 1 ≤ c0 := (nI_leI (by omega) (by omega)).mp c_133
                              refine lv_aload_n hx hb dX9_goThree_136 rfl (lv_at hl 0 rfl) ?_
                              refine m_get (ci := 9) (C := RX9) (T := TX9) (N := 18) (v := v 5) hx hb hts in_X9 hown hK hM hR rfl 5 (by decide) fl_23 (fun _ h => h) rfl dX9_goThree_137 ?_
                              refine tpv (hv5) ?_
                              refine lv_iload hx hb dX9_goThree_140 (lv_at hl 4 rfl) ?_
                              refine lv_sipush (v := 133) hx hb dX9_goThree_142 (by decide) ?_
                              refine lv_iload hx hb dX9_goThree_145 (lv_at hl 6 rfl) ?_
                              refine lv_imul hx hb dX9_goThree_147 ?_
                              refine tpi (x' := nI (133 * (k + 1))) (pk_mul 133 _) ?_
                              refine lv_isub hx hb dX9_goThree_148 ?_
                              refine tpi (x' := nI (1331 * bN mi + n3 a b c0 - 133 * (k + 1))) (nI_sub (by omega)) ?_
                              refine m_zaldN (k := 1331 * bN mi + n3 a b c0 - 133 * (k + 1)) hx hb hK hM hth (rfl) (by omega) (by decide) dX9_goThree_149 ?_
                              refine tpi (x' := bI (!l3 mi (n3 a b c0 - 133 * (k + 1)))) (by rw [show 1331 * bN mi + n3 a b c0 - 133 * (k + 1) = 1331 * bN mi + (n3 a b c0 - 133 * (k + 1)) by omega]; exact hup _ (by omega) (by omega)) ?_
                              refine bz_ne (tgt := 157) hx hb dX9_goThree_150 (by decide) (fun c_150 n_150 => ?_) (fun c_150 n_150 => ?_)
                              · skip
                                have l4 := bI_nn0 c_150
                                refine lv_iconst (v := 0) hx hb dX9_goThree_157 (by decide) ?_
                                refine tpi (x' := bI false) (rfl) ?_
                                exact j_158 false _ (by rw [hcn]; unfold s3; first | (simp [k1, l1, k2, l2, k3, l3_, k4, k5, k6, l4]; done) | omega) (lv_sub hl [0, 1, 2, 3, 4, 5, 6] rfl)
                              · skip
                                have l4 := bI_n0 c_150
                                refine lv_iconst (v := 1) hx hb dX9_goThree_153 (by decide) ?_
                                refine tpi (x' := bI true) (rfl) ?_
                                refine lv_goto (tgt := 158) hx hb dX9_goThree_154 (by decide) ?_
                                exact j_158 true _ (by rw [hcn]; unfold s3; first | (simp [k1, l1, k2, l2, k3, l3_, k4, k5, k6, l4]; done) | omega) (lv_sub hl [0, 1, 2, 3, 4, 5, 6] rfl)
    exact j_39 (11) 0 _ (Nat.zero_le _) (by omega) (lv_sub hl [3, 6, 7, 8, 2, 1, 0] rfl)
  · skip
    have e0 : a + b + c0 = 0 := (nI_eq (b := 0) (by omega) (by decide)).mp c_7
    refine lv_iload_n hx hb dX9_goThree_10 rfl (lv_at hl 2 rfl) ?_
    exact hret _ _ _ dX9_goThree_11 (by rw [← hok, if_pos e0])
