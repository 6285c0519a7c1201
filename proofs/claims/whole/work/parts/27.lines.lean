theorem min_nI {a b : Nat} (ha : a < 2 ^ 31) (hb : b < 2 ^ 31) : (if nI b < nI a then nI b else nI a) = nI (min a b) := by
  by_cases h : b < a
  · rw [if_pos ((nI_ltI hb ha).mpr h), Nat.min_eq_right (by omega)]
  · rw [if_neg (fun z => h ((nI_ltI hb ha).mp z)), Nat.min_eq_left (by omega)]
theorem max_nI {a b : Nat} (ha : a < 2 ^ 31) (hb : b < 2 ^ 31) : (if nI a < nI b then nI b else nI a) = nI (max a b) := by
  by_cases h : a < b
  · rw [if_pos ((nI_ltI ha hb).mpr h), Nat.max_eq_right (by omega)]
  · rw [if_neg (fun z => h ((nI_ltI ha hb).mp z)), Nat.max_eq_left (by omega)]
set_option maxHeartbeats 1000000 in
set_option maxRecDepth 100000 in
theorem k_X3_sharesReach (l : Launch) (D : va_G) (cA : Nat → ClassId) (M : mp) (X : Int64) (gg ll : Nat) (hl1 : 1 ≤ ll) (hl2 : ll ≤ 60) (hg2 : gg ≤ 60) : PC l D cA yX3_sharesReach wsX3_sharesReach 0 0 [.long X, .int (nI gg), .int (nI ll)] M (some (.int (bI (rcI X ll (gg + 1) gg)))) := by
  refine PC.zz (cc := cX3_sharesReach) (maxL := 5) (by decide) rfl (Nat.le_of_ble_eq_true rfl) ?_
  intro p e s m args below meth c H Q ls B hM hl hret
  obtain ⟨hx, hb, hown, hts, hml, hK, hin⟩ := B
  have hown : s.vm.findClass RX3 = some m.cls := hown
  have hl : lv_has ls 5 [(0, .long X), (2, .int (nI gg)), (3, .int (nI ll))] := hl
  refine lv_iload_n hx hb dX3_sharesReach_0 rfl (lv_at hl 1 rfl) ?_
  refine lv_iload_n hx hb dX3_sharesReach_1 rfl (lv_at hl 2 rfl) ?_
  refine lv_isub hx hb dX3_sharesReach_2 ?_
  refine lv_istore (lv' := [(4, .int ((nI gg - nI ll))), (0, .long X), (2, .int (nI gg)), (3, .int (nI ll))]) hx hb dX3_sharesReach_3 hl (by decide) rfl (fun ls hl => ?_)
  have j_5 : ∀ (fu : Nat) (d u : Nat) (ls : Array Slot), (u < d) → (u ≤ 60) → (rcI X ll d u = rcI X ll (gg + 1) gg) → (u < fu) → lv_has ls 5 [(0, .long X), (3, .int (nI ll)), (4, .int (nI u - nI ll))] → W p l e ({ frames := 0, cells := 0, slots := 0, locals := 0 } : Room) s m args below meth c H [] 0 0 Q (F0 m 5 ls []) := by
    intro fu
    induction fu with
    | zero => intro d u ls hd hu hs hm_5 _; exact absurd hm_5 (Nat.not_lt_zero _)
    | succ fu ih_5 =>
      intro d u ls hd hu hs hm_5 hl
      obtain ⟨d1, hd1⟩ : ∃ d1, d = d1 + 1 := ⟨d - 1, by omega⟩
      refine lv_iload_n hx hb dX3_sharesReach_5 rfl (lv_at hl 1 rfl) ?_
      refine bz_le (tgt := 36) hx hb dX3_sharesReach_6 (by decide) (fun c_6 n_6 => ?_) (fun c_6 n_6 => ?_)
      · exact absurd ((nI_leI (a := ll) (b := 0) (by omega) (by decide)).mp c_6) (by omega)
      · skip
        refine lv_iload hx hb dX3_sharesReach_9 (lv_at hl 2 rfl) ?_
        refine bz_lt (tgt := 36) hx hb dX3_sharesReach_11 (by decide) (fun c_11 n_11 => ?_) (fun c_11 n_11 => ?_)
        · skip
          have hlt : u < ll := by rcases Nat.lt_or_ge u ll with g | g; exact g; (rw [nI_sub g] at c_11; exact absurd c_11 (nI_pos (by omega)))
          refine lv_iconst (v := 0) hx hb dX3_sharesReach_36 (by decide) ?_
          exact hret _ _ _ dX3_sharesReach_37 (by rw [← hs, hd1]; show _ = bI (if ll ≤ u then bitI X (u - ll) || _ else false); rw [if_neg (by omega)]; rfl)
        · skip
          have hle : ll ≤ u := by rcases Nat.lt_or_ge u ll with g | g; exact absurd (pk_sneg (by omega) g) n_11; exact g
          refine lv_lload_n hx hb dX3_sharesReach_14 rfl (lv_at hl 0 rfl) ?_
          refine lv_iload hx hb dX3_sharesReach_15 (lv_at hl 2 rfl) ?_
          refine tpi (x' := nI (u - ll)) (nI_sub hle) ?_
          refine lv_lushr hx hb dX3_sharesReach_17 rfl ?_
          refine lv_lconst (v := 1) hx hb dX3_sharesReach_18 (by decide) ?_
          refine lv_land hx hb dX3_sharesReach_19 ?_
          refine lv_lconst (v := 1) hx hb dX3_sharesReach_20 (by decide) ?_
          refine bl_ne (tgt := 27) hx hb dX3_sharesReach_21 dX3_sharesReach_22 (by decide) (fun c_22 n_22 => ?_) (fun c_22 n_22 => ?_)
          · skip
            have hbit : bitI X (u - ll) = false := by unfold bitI; exact decide_eq_false c_22
            refine lv_iload hx hb dX3_sharesReach_27 (lv_at hl 2 rfl) ?_
            refine tpi (x' := nI (u - ll)) (nI_sub hle) ?_
            refine lv_iload_n hx hb dX3_sharesReach_29 rfl (lv_at hl 1 rfl) ?_
            refine lv_isub hx hb dX3_sharesReach_30 ?_
            refine lv_istore (lv' := [(4, .int ((nI (u - ll) - nI ll))), (0, .long X), (3, .int (nI ll))]) hx hb dX3_sharesReach_31 hl (by decide) rfl (fun ls hl => ?_)
            refine lv_goto (tgt := 5) hx hb dX3_sharesReach_33 (by decide) ?_
            exact ih_5 d1 (u - ll) _ (by omega) (by omega) (by rw [← hs, hd1]; show _ = (if ll ≤ u then bitI X (u - ll) || _ else false); rw [if_pos hle, hbit, Bool.false_or]) (by omega) (lv_sub hl [1, 2, 0] rfl)
          · skip
            have hbit : bitI X (u - ll) = true := by unfold bitI; exact decide_eq_true c_22
            refine lv_iconst (v := 1) hx hb dX3_sharesReach_25 (by decide) ?_
            exact hret _ _ _ dX3_sharesReach_26 (by rw [← hs, hd1]; show _ = bI (if ll ≤ u then bitI X (u - ll) || _ else false); rw [if_pos hle, hbit]; rfl)
  exact j_5 (gg + 1) (gg + 1) gg _ (by omega) hg2 rfl (by omega) (lv_sub hl [1, 3, 0] rfl)
set_option maxHeartbeats 1000000 in
set_option maxRecDepth 100000 in
theorem k_X3_lostInLine (l : Launch) (D : va_G) (cA : Nat → ClassId) (M : mp) (w : Int64) (sd : Int32) (e0 : Bool)  : PC l D cA yX3_lostInLine wsX3_lostInLine 0 0 [.long w, .int sd, .int (bI e0)] M (some (.long (liF w sd e0))) := by
  refine PC.lg (cc := cX3_lostInLine) (maxL := 8) (by decide) rfl (Nat.le_of_ble_eq_true rfl) ?_
  intro p e s m args below meth c H Q ls B hM hl hret
  obtain ⟨hx, hb, hown, hts, hml, hK, hin⟩ := B
  have hown : s.vm.findClass RX3 = some m.cls := hown
  have hl : lv_has ls 8 [(0, .long w), (2, .int sd), (3, .int (bI e0))] := hl
  have cst_56 := hts (.constantLong RX3 56 (-1)) (by decide +kernel)
  refine lv_iload_n hx hb dX3_lostInLine_0 rfl (lv_at hl 2 rfl) ?_
  refine bz_eq (tgt := 10) hx hb dX3_lostInLine_1 (by decide) (fun c_1 n_1 => ?_) (fun c_1 n_1 => ?_)
  · skip
    have he := bI_eq0 c_1
    refine lv_lload_n hx hb dX3_lostInLine_10 rfl (lv_at hl 0 rfl) ?_
    refine lv_lstore (lv' := [(4, .long w), (0, .long w), (2, .int sd), (3, .int (bI e0))]) hx hb dX3_lostInLine_11 hl (by decide) rfl (fun ls hl => ?_)
    refine lv_lload hx hb dX3_lostInLine_13 (lv_at hl 0 rfl) ?_
    refine lv_ldc2 hx hb hown cst_56 dX3_lostInLine_15 ?_
    refine lv_lxor hx hb dX3_lostInLine_18 ?_
    refine lv_lconst (v := 1) hx hb dX3_lostInLine_19 (by decide) ?_
    refine lv_iload_n hx hb dX3_lostInLine_20 rfl (lv_at hl 2 rfl) ?_
    refine lv_lshl hx hb dX3_lostInLine_21 rfl ?_
    refine lv_lconst (v := 1) hx hb dX3_lostInLine_22 (by decide) ?_
    refine lv_lsub hx hb dX3_lostInLine_23 ?_
    refine lv_land hx hb dX3_lostInLine_24 ?_
    refine lv_lstore (lv' := [(6, .long (((w ^^^ (-1)) &&& (((1 : Int64) <<< ((sd : Int32).toInt64 &&& 63)) - 1)))), (4, .long w), (0, .long w), (2, .int sd), (3, .int (bI e0))]) hx hb dX3_lostInLine_25 hl (by decide) rfl (fun ls hl => ?_)
    refine lv_lload hx hb dX3_lostInLine_27 (lv_at hl 0 rfl) ?_
    refine lv_lload hx hb dX3_lostInLine_29 (lv_at hl 0 rfl) ?_
    refine lv_lneg hx hb dX3_lostInLine_31 ?_
    refine lv_land hx hb dX3_lostInLine_32 ?_
    exact hret _ _ _ dX3_lostInLine_33 (by unfold liF; rw [he]; rfl)
  · skip
    have he := bI_ne0 c_1
    refine lv_lload_n hx hb dX3_lostInLine_4 rfl (lv_at hl 0 rfl) ?_
    refine lv_lconst (v := 1) hx hb dX3_lostInLine_5 (by decide) ?_
    refine lv_lor hx hb dX3_lostInLine_6 ?_
    refine lv_goto (tgt := 11) hx hb dX3_lostInLine_7 (by decide) ?_
    refine lv_lstore (lv' := [(4, .long ((w ||| 1))), (0, .long w), (2, .int sd), (3, .int (bI e0))]) hx hb dX3_lostInLine_11 hl (by decide) rfl (fun ls hl => ?_)
    refine lv_lload hx hb dX3_lostInLine_13 (lv_at hl 0 rfl) ?_
    refine lv_ldc2 hx hb hown cst_56 dX3_lostInLine_15 ?_
    refine lv_lxor hx hb dX3_lostInLine_18 ?_
    refine lv_lconst (v := 1) hx hb dX3_lostInLine_19 (by decide) ?_
    refine lv_iload_n hx hb dX3_lostInLine_20 rfl (lv_at hl 2 rfl) ?_
    refine lv_lshl hx hb dX3_lostInLine_21 rfl ?_
    refine lv_lconst (v := 1) hx hb dX3_lostInLine_22 (by decide) ?_
    refine lv_lsub hx hb dX3_lostInLine_23 ?_
    refine lv_land hx hb dX3_lostInLine_24 ?_
    refine lv_lstore (lv' := [(6, .long ((((w ||| 1) ^^^ (-1)) &&& (((1 : Int64) <<< ((sd : Int32).toInt64 &&& 63)) - 1)))), (4, .long ((w ||| 1))), (0, .long w), (2, .int sd), (3, .int (bI e0))]) hx hb dX3_lostInLine_25 hl (by decide) rfl (fun ls hl => ?_)
    refine lv_lload hx hb dX3_lostInLine_27 (lv_at hl 0 rfl) ?_
    refine lv_lload hx hb dX3_lostInLine_29 (lv_at hl 0 rfl) ?_
    refine lv_lneg hx hb dX3_lostInLine_31 ?_
    refine lv_land hx hb dX3_lostInLine_32 ?_
    exact hret _ _ _ dX3_lostInLine_33 (by unfold liF; rw [he]; rfl)
set_option maxHeartbeats 1000000 in
set_option maxRecDepth 100000 in
theorem k_X3_wonByTaking (l : Launch) (D : va_G) (cA : Nat → ClassId) (M : mp) (la a b : Nat) (f : Nat → Int64) (hla : M la = some (.inl (cA 0, 121, .inr (.inl f)))) (ha : a ≤ 10) (hb0 : b ≤ 10) : PC l D cA yX3_wonByTaking wsX3_wonByTaking 0 0 [.ref la, .int (nI a), .int (nI b)] M (some (.long (wbI f a b))) := by
  refine PC.lg (cc := cX3_wonByTaking) (maxL := 7) (by decide) rfl (Nat.le_of_ble_eq_true rfl) ?_
  intro p e s m args below meth c H Q ls B hM hl hret
  obtain ⟨hx, hb, hown, hts, hml, hK, hin⟩ := B
  have hown : s.vm.findClass RX3 = some m.cls := hown
  have hl : lv_has ls 7 [(0, .ref la), (1, .int (nI a)), (2, .int (nI b))] := hl
  refine lv_iload_n hx hb dX3_wonByTaking_0 rfl (lv_at hl 1 rfl) ?_
  refine lv_bipush (v := 11) hx hb dX3_wonByTaking_1 (by decide) ?_
  refine lv_imul hx hb dX3_wonByTaking_3 ?_
  refine tpi (x' := nI (a * 11)) (pk_mul a 11) ?_
  refine lv_iload_n hx hb dX3_wonByTaking_4 rfl (lv_at hl 2 rfl) ?_
  refine lv_iadd hx hb dX3_wonByTaking_5 ?_
  refine tpi (x' := nI (11 * a + b)) (by rw [nI_add]; congr 1; omega) ?_
  refine lv_istore_n (lv' := [(3, .int (nI (11 * a + b))), (0, .ref la), (1, .int (nI a)), (2, .int (nI b))]) hx hb dX3_wonByTaking_6 rfl hl (by decide) rfl (fun ls hl => ?_)
  refine lv_lconst (v := 0) hx hb dX3_wonByTaking_7 (by decide) ?_
  refine lv_lstore (lv' := [(4, .long 0), (3, .int (nI (11 * a + b))), (0, .ref la), (1, .int (nI a)), (2, .int (nI b))]) hx hb dX3_wonByTaking_8 hl (by decide) rfl (fun ls hl => ?_)
  refine lv_iconst (v := 1) hx hb dX3_wonByTaking_10 (by decide) ?_
  refine tpi (x' := nI (0 + 1)) (rfl) ?_
  refine lv_istore (lv' := [(6, .int (nI (0 + 1))), (4, .long 0), (3, .int (nI (11 * a + b))), (0, .ref la), (1, .int (nI a)), (2, .int (nI b))]) hx hb dX3_wonByTaking_11 hl (by decide) rfl (fun ls hl => ?_)
  have j_13 : ∀ (fu : Nat) (k : Nat) (ls : Array Slot), (k ≤ a) → (a - k < fu) → lv_has ls 7 [(0, .ref la), (1, .int (nI a)), (2, .int (nI b)), (3, .int (nI (11 * a + b))), (4, .long (orA (fun k => f (11 * a + b - 11 * k)) k 0)), (6, .int (nI (k + 1)))] → W p l e ({ frames := 0, cells := 0, slots := 0, locals := 0 } : Room) s m args below meth c H [] 0 0 Q (F0 m 13 ls []) := by
    intro fu
    induction fu with
    | zero => intro k ls hka hm_13 _; exact absurd hm_13 (Nat.not_lt_zero _)
    | succ fu ih_13 =>
      intro k ls hka hm_13 hl
      refine lv_iload hx hb dX3_wonByTaking_13 (lv_at hl 5 rfl) ?_
      refine lv_iload_n hx hb dX3_wonByTaking_15 rfl (lv_at hl 1 rfl) ?_
      refine bi_gt (tgt := 39) hx hb dX3_wonByTaking_16 (by decide) (fun c_16 n_16 => ?_) (fun c_16 n_16 => ?_)
      · skip
        have hk : a < k + 1 := (nI_ltI (by omega) (by omega)).mp c_16
        have ek : k = a := by omega
        refine lv_iconst (v := 1) hx hb dX3_wonByTaking_39 (by decide) ?_
        refine tpi (x' := nI (0 + 1)) (rfl) ?_
        refine lv_istore (lv' := [(6, .int (nI (0 + 1))), (0, .ref la), (1, .int (nI a)), (2, .int (nI b)), (3, .int (nI (11 * a + b))), (4, .long (orA (fun k => f (11 * a + b - 11 * k)) k 0))]) hx hb dX3_wonByTaking_40 hl (by decide) rfl (fun ls hl => ?_)
        have j_42 : ∀ (fu : Nat) (k : Nat) (ls : Array Slot), (k ≤ b) → (b - k < fu) → lv_has ls 7 [(0, .ref la), (1, .int (nI a)), (2, .int (nI b)), (3, .int (nI (11 * a + b))), (4, .long (orA (fun k => f (11 * a + b - k)) k (orA (fun k => f (11 * a + b - 11 * k)) a 0))), (6, .int (nI (k + 1)))] → W p l e ({ frames := 0, cells := 0, slots := 0, locals := 0 } : Room) s m args below meth c H [] 0 0 Q (F0 m 42 ls []) := by
          intro fu
          induction fu with
          | zero => intro k ls hkb hm_42 _; exact absurd hm_42 (Nat.not_lt_zero _)
          | succ fu ih_42 =>
            intro k ls hkb hm_42 hl
            refine lv_iload hx hb dX3_wonByTaking_42 (lv_at hl 5 rfl) ?_
            refine lv_iload_n hx hb dX3_wonByTaking_44 rfl (lv_at hl 2 rfl) ?_
            refine bi_gt (tgt := 65) hx hb dX3_wonByTaking_45 (by decide) (fun c_45 n_45 => ?_) (fun c_45 n_45 => ?_)
            · skip
              have hk : b < k + 1 := (nI_ltI (by omega) (by omega)).mp c_45
              have ek : k = b := by omega
              refine lv_iconst (v := 1) hx hb dX3_wonByTaking_65 (by decide) ?_
              refine tpi (x' := nI (0 + 1)) (rfl) ?_
              refine lv_istore (lv' := [(6, .int (nI (0 + 1))), (0, .ref la), (1, .int (nI a)), (2, .int (nI b)), (3, .int (nI (11 * a + b))), (4, .long (orA (fun k => f (11 * a + b - k)) k (orA (fun k => f (11 * a + b - 11 * k)) a 0)))]) hx hb dX3_wonByTaking_66 hl (by decide) rfl (fun ls hl => ?_)
              have j_68 : ∀ (fu : Nat) (k : Nat) (ls : Array Slot), (k ≤ min a b) → (min a b - k < fu) → lv_has ls 7 [(0, .ref la), (1, .int (nI a)), (2, .int (nI b)), (3, .int (nI (11 * a + b))), (4, .long (orA (fun k => f (11 * a + b - 11 * k - k) <<< ((nI k : Int32).toInt64 &&& 63)) k (orA (fun k => f (11 * a + b - k)) b (orA (fun k => f (11 * a + b - 11 * k)) a 0)))), (6, .int (nI (k + 1)))] → W p l e ({ frames := 0, cells := 0, slots := 0, locals := 0 } : Room) s m args below meth c H [] 0 0 Q (F0 m 68 ls []) := by
                intro fu
                induction fu with
                | zero => intro k ls hkm hm_68 _; exact absurd hm_68 (Nat.not_lt_zero _)
                | succ fu ih_68 =>
                  intro k ls hkm hm_68 hl
                  refine lv_iload hx hb dX3_wonByTaking_68 (lv_at hl 5 rfl) ?_
                  refine lv_iload_n hx hb dX3_wonByTaking_70 rfl (lv_at hl 1 rfl) ?_
                  refine bi_gt (tgt := 106) hx hb dX3_wonByTaking_71 (by decide) (fun c_71 n_71 => ?_) (fun c_71 n_71 => ?_)
                  · skip
                    have hk : a < k + 1 := (nI_ltI (by omega) (by omega)).mp c_71
                    have ek : k = min a b := by omega
                    refine lv_lload hx hb dX3_wonByTaking_106 (lv_at hl 4 rfl) ?_
                    exact hret _ _ _ dX3_wonByTaking_108 (by rw [ek]; rfl)
                  · skip
                    have hk : k + 1 ≤ a := (nI_leI (by omega) (by omega)).mp c_71
                    refine lv_iload hx hb dX3_wonByTaking_74 (lv_at hl 5 rfl) ?_
                    refine lv_iload_n hx hb dX3_wonByTaking_76 rfl (lv_at hl 2 rfl) ?_
                    refine bi_gt (tgt := 106) hx hb dX3_wonByTaking_77 (by decide) (fun c_77 n_77 => ?_) (fun c_77 n_77 => ?_)
                    · skip
                      have hk2 : b < k + 1 := (nI_ltI (by omega) (by omega)).mp c_77
                      have ek : k = min a b := by omega
                      refine lv_lload hx hb dX3_wonByTaking_106 (lv_at hl 4 rfl) ?_
                      exact hret _ _ _ dX3_wonByTaking_108 (by rw [ek]; rfl)
                    · skip
                      have hk2 : k + 1 ≤ b := (nI_leI (by omega) (by omega)).mp c_77
                      refine lv_lload hx hb dX3_wonByTaking_80 (lv_at hl 4 rfl) ?_
                      refine lv_aload_n hx hb dX3_wonByTaking_82 rfl (lv_at hl 0 rfl) ?_
                      refine lv_iload_n hx hb dX3_wonByTaking_83 rfl (lv_at hl 3 rfl) ?_
                      refine lv_iload hx hb dX3_wonByTaking_84 (lv_at hl 5 rfl) ?_
                      refine lv_bipush (v := 11) hx hb dX3_wonByTaking_86 (by decide) ?_
                      refine lv_imul hx hb dX3_wonByTaking_88 ?_
                      refine tpi (x' := nI ((k + 1) * 11)) (pk_mul (k + 1) 11) ?_
                      refine lv_isub hx hb dX3_wonByTaking_89 ?_
                      refine tpi (x' := nI (11 * a + b - 11 * (k + 1))) (by rw [nI_sub (by omega)]; congr 1; omega) ?_
                      refine lv_iload hx hb dX3_wonByTaking_90 (lv_at hl 5 rfl) ?_
                      refine lv_isub hx hb dX3_wonByTaking_92 ?_
                      refine tpi (x' := nI (11 * a + b - 11 * (k + 1) - (k + 1))) (nI_sub (by omega)) ?_
                      refine m_laldN (k := 11 * a + b - 11 * (k + 1) - (k + 1)) hx hb hK hM hla (rfl) (by omega) (by decide) dX3_wonByTaking_93 ?_
                      refine lv_iload hx hb dX3_wonByTaking_94 (lv_at hl 5 rfl) ?_
                      refine lv_lshl hx hb dX3_wonByTaking_96 rfl ?_
                      refine lv_lor hx hb dX3_wonByTaking_97 ?_
                      refine tpl (x' := orA (fun k => f (11 * a + b - 11 * k - k) <<< ((nI k : Int32).toInt64 &&& 63)) (k + 1) (orA (fun k => f (11 * a + b - k)) b (orA (fun k => f (11 * a + b - 11 * k)) a 0))) (rfl) ?_
                      refine lv_lstore (lv' := [(4, .long (orA (fun k => f (11 * a + b - 11 * k - k) <<< ((nI k : Int32).toInt64 &&& 63)) (k + 1) (orA (fun k => f (11 * a + b - k)) b (orA (fun k => f (11 * a + b - 11 * k)) a 0)))), (0, .ref la), (1, .int (nI a)), (2, .int (nI b)), (3, .int (nI (11 * a + b))), (6, .int (nI (k + 1)))]) hx hb dX3_wonByTaking_98 hl (by decide) rfl (fun ls hl => ?_)
                      refine lv_iinc (v := nI (k + 1 + 1)) (lv' := [(6, .int (nI (k + 1 + 1))), (4, .long (orA (fun k => f (11 * a + b - 11 * k - k) <<< ((nI k : Int32).toInt64 &&& 63)) (k + 1) (orA (fun k => f (11 * a + b - k)) b (orA (fun k => f (11 * a + b - 11 * k)) a 0)))), (0, .ref la), (1, .int (nI a)), (2, .int (nI b)), (3, .int (nI (11 * a + b)))]) hx hb dX3_wonByTaking_100 hl (k := 5) rfl (nI_up _) (by decide) rfl (fun ls hl => ?_)
                      refine lv_goto (tgt := 68) hx hb dX3_wonByTaking_103 (by decide) ?_
                      exact ih_68 (k + 1) _ (by omega) (by omega) (lv_sub hl [2, 3, 4, 5, 1, 0] rfl)
              rw [ek] at hl
              exact j_68 (min a b + 1) 0 _ (Nat.zero_le _) (by omega) (lv_sub hl [1, 2, 3, 4, 5, 0] rfl)
            · skip
              have hk : k + 1 ≤ b := (nI_leI (by omega) (by omega)).mp c_45
              refine lv_lload hx hb dX3_wonByTaking_48 (lv_at hl 4 rfl) ?_
              refine lv_aload_n hx hb dX3_wonByTaking_50 rfl (lv_at hl 0 rfl) ?_
              refine lv_iload_n hx hb dX3_wonByTaking_51 rfl (lv_at hl 3 rfl) ?_
              refine lv_iload hx hb dX3_wonByTaking_52 (lv_at hl 5 rfl) ?_
              refine lv_isub hx hb dX3_wonByTaking_54 ?_
              refine tpi (x' := nI (11 * a + b - (k + 1))) (nI_sub (by omega)) ?_
              refine m_laldN (k := 11 * a + b - (k + 1)) hx hb hK hM hla (rfl) (by omega) (by decide) dX3_wonByTaking_55 ?_
              refine lv_lor hx hb dX3_wonByTaking_56 ?_
              refine tpl (x' := orA (fun k => f (11 * a + b - k)) (k + 1) (orA (fun k => f (11 * a + b - 11 * k)) a 0)) (rfl) ?_
              refine lv_lstore (lv' := [(4, .long (orA (fun k => f (11 * a + b - k)) (k + 1) (orA (fun k => f (11 * a + b - 11 * k)) a 0))), (0, .ref la), (1, .int (nI a)), (2, .int (nI b)), (3, .int (nI (11 * a + b))), (6, .int (nI (k + 1)))]) hx hb dX3_wonByTaking_57 hl (by decide) rfl (fun ls hl => ?_)
              refine lv_iinc (v := nI (k + 1 + 1)) (lv' := [(6, .int (nI (k + 1 + 1))), (4, .long (orA (fun k => f (11 * a + b - k)) (k + 1) (orA (fun k => f (11 * a + b - 11 * k)) a 0))), (0, .ref la), (1, .int (nI a)), (2, .int (nI b)), (3, .int (nI (11 * a + b)))]) hx hb dX3_wonByTaking_59 hl (k := 5) rfl (nI_up _) (by decide) rfl (fun ls hl => ?_)
              refine lv_goto (tgt := 42) hx hb dX3_wonByTaking_62 (by decide) ?_
              exact ih_42 (k + 1) _ (by omega) (by omega) (lv_sub hl [2, 3, 4, 5, 1, 0] rfl)
        subst ek
        exact j_42 (b + 1) 0 _ (Nat.zero_le _) (by omega) (lv_sub hl [1, 2, 3, 4, 5, 0] rfl)
      · skip
        have hk : k + 1 ≤ a := (nI_leI (by omega) (by omega)).mp c_16
        refine lv_lload hx hb dX3_wonByTaking_19 (lv_at hl 4 rfl) ?_
        refine lv_aload_n hx hb dX3_wonByTaking_21 rfl (lv_at hl 0 rfl) ?_
        refine lv_iload_n hx hb dX3_wonByTaking_22 rfl (lv_at hl 3 rfl) ?_
        refine lv_iload hx hb dX3_wonByTaking_23 (lv_at hl 5 rfl) ?_
        refine lv_bipush (v := 11) hx hb dX3_wonByTaking_25 (by decide) ?_
        refine lv_imul hx hb dX3_wonByTaking_27 ?_
        refine tpi (x' := nI ((k + 1) * 11)) (pk_mul (k + 1) 11) ?_
        refine lv_isub hx hb dX3_wonByTaking_28 ?_
        refine tpi (x' := nI (11 * a + b - 11 * (k + 1))) (by rw [nI_sub (by omega)]; congr 1; omega) ?_
        refine m_laldN (k := 11 * a + b - 11 * (k + 1)) hx hb hK hM hla (rfl) (by omega) (by decide) dX3_wonByTaking_29 ?_
        refine lv_lor hx hb dX3_wonByTaking_30 ?_
        refine tpl (x' := orA (fun k => f (11 * a + b - 11 * k)) (k + 1) 0) (rfl) ?_
        refine lv_lstore (lv' := [(4, .long (orA (fun k => f (11 * a + b - 11 * k)) (k + 1) 0)), (0, .ref la), (1, .int (nI a)), (2, .int (nI b)), (3, .int (nI (11 * a + b))), (6, .int (nI (k + 1)))]) hx hb dX3_wonByTaking_31 hl (by decide) rfl (fun ls hl => ?_)
        refine lv_iinc (v := nI (k + 1 + 1)) (lv' := [(6, .int (nI (k + 1 + 1))), (4, .long (orA (fun k => f (11 * a + b - 11 * k)) (k + 1) 0)), (0, .ref la), (1, .int (nI a)), (2, .int (nI b)), (3, .int (nI (11 * a + b)))]) hx hb dX3_wonByTaking_33 hl (k := 5) rfl (nI_up _) (by decide) rfl (fun ls hl => ?_)
        refine lv_goto (tgt := 13) hx hb dX3_wonByTaking_36 (by decide) ?_
        exact ih_13 (k + 1) _ (by omega) (by omega) (lv_sub hl [2, 3, 4, 5, 1, 0] rfl)
  exact j_13 (a + 1) 0 _ (Nat.zero_le _) (by omega) (lv_sub hl [3, 4, 5, 2, 1, 0] rfl)
set_option maxHeartbeats 1000000 in
set_option maxRecDepth 100000 in
theorem k_X3_fillBoth (l : Launch) (D : va_G) (cA : Nat → ClassId) (M : mp) (la : Nat) (mi : Bool) (f0 : Nat → Int64) (hla : M la = some (.inl (cA 0, 61, .inr (.inl f0)))) : MC l D cA yX3_fillBoth wsX3_fillBoth 1 27 0 0 [.ref la, .int (bI mi)] M (fun r M' => r = none ∧ (∃ f', M' la = some (.inl (cA 0, 61, .inr (.inl f'))) ∧ ∀ j, j < 61 → f' j = tbI 1 mi j) ∧ kpL M M' [la]) := by
  refine MC.of (cc := cX3_fillBoth) (maxL := 7) (ret := none) (by decide) rfl (Nat.le_of_ble_eq_true rfl) ?_
  intro p e s m args below meth c Q ls B hh hl hretv hreti hretz hretl hreta
  obtain ⟨hx, hb, hown, hts, hml, hK, hin⟩ := B
  have hM := hh.1
  have hM_0 := hh.1
  have hkp : kpL M M [la] := kpL.rf M _
  have hown : s.vm.findClass RX3 = some m.cls := hown
  have hl : lv_has ls 7 [(0, .ref la), (1, .int (bI mi))] := hl
  refine lv_lconst (v := 0) hx hb dX3_fillBoth_0 (by decide) ?_
  refine tpl (x' := bfT mi 0) (rfl) ?_
  refine lv_lstore_n (lv' := [(2, .long (bfT mi 0)), (0, .ref la), (1, .int (bI mi))]) hx hb dX3_fillBoth_1 rfl hl (by decide) rfl (fun ls hl => ?_)
  refine lv_lconst (v := 0) hx hb dX3_fillBoth_2 (by decide) ?_
  refine tpl (x' := bbT mi 0) (rfl) ?_
  refine lv_lstore (lv' := [(4, .long (bbT mi 0)), (2, .long (bfT mi 0)), (0, .ref la), (1, .int (bI mi))]) hx hb dX3_fillBoth_3 hl (by decide) rfl (fun ls hl => ?_)
  refine lv_iconst (v := 0) hx hb dX3_fillBoth_5 (by decide) ?_
  refine tpi (x' := nI 0) (rfl) ?_
  refine lv_istore (lv' := [(6, .int (nI 0)), (4, .long (bbT mi 0)), (2, .long (bfT mi 0)), (0, .ref la), (1, .int (bI mi))]) hx hb dX3_fillBoth_6 hl (by decide) rfl (fun ls hl => ?_)
  have j_8 : ∀ (fu : Nat) (k : Nat) (f : Nat → Int64) (M1 : mp) (H : Heap) (locs : List Loc) (ls : Array Slot), (k ≤ 61) → (∀ j, j < k → f j = tbI 1 mi j) → (hw D M s.heap M1 H locs) → (kpL M M1 [la]) → (M1 la = some (.inl (cA 0, 61, .inr (.inl f)))) → (61 - k < fu) → lv_has ls 7 [(0, .ref la), (1, .int (bI mi)), (2, .long (bfT mi k)), (4, .long (bbT mi k)), (6, .int (nI k))] → W p l e ({ frames := 1, cells := 0, slots := 0, locals := 27 } : Room) s m args below meth c H locs 0 0 Q (F0 m 8 ls []) := by
    intro fu
    induction fu with
    | zero => intro k f M1 H locs ls hk hf hh hkp hla hm_8 _; exact absurd hm_8 (Nat.not_lt_zero _)
    | succ fu ih_8 =>
      intro k f M1 H locs ls hk hf hh hkp hla hm_8 hl
      have hM := hh.1
      refine lv_iload hx hb dX3_fillBoth_8 (lv_at hl 4 rfl) ?_
      refine lv_bipush (v := 61) hx hb dX3_fillBoth_10 (by decide) ?_
      refine bi_ge (tgt := 66) hx hb dX3_fillBoth_12 (by decide) (fun c_12 n_12 => ?_) (fun c_12 n_12 => ?_)
      · skip
        have hge : 61 ≤ k := (nI_leI (a := 61) (by decide) (by omega)).mp c_12
        exact hretv _ _ _ _ _ _ _ hh (⟨rfl, ⟨f, hla, fun j hj => hf j (by omega)⟩, hkp⟩) (by decide) (by decide) dX3_fillBoth_66 rfl
      · skip
        have hlt : k < 61 := (nI_ltI (b := 61) (by omega) (by decide)).mp c_12
        refine lv_aload_n hx hb dX3_fillBoth_15 rfl (lv_at hl 0 rfl) ?_
        refine lv_iload hx hb dX3_fillBoth_16 (lv_at hl 4 rfl) ?_
        refine lv_lload_n hx hb dX3_fillBoth_18 rfl (lv_at hl 2 rfl) ?_
        refine lv_lload hx hb dX3_fillBoth_19 (lv_at hl 3 rfl) ?_
        refine lv_lor hx hb dX3_fillBoth_21 ?_
        refine lv_bipush (v := 61) hx hb dX3_fillBoth_22 (by decide) ?_
        refine lv_iload_n hx hb dX3_fillBoth_24 rfl (lv_at hl 1 rfl) ?_
        refine bz_eq (tgt := 37) hx hb dX3_fillBoth_25 (by decide) (fun c_25 n_25 => ?_) (fun c_25 n_25 => ?_)
        · skip
          have hm := bI_eq0 c_25
          refine lv_iconst (v := 0) hx hb dX3_fillBoth_37 (by decide) ?_
          refine tpi (x' := bI (mi && decide (k = 0))) (by rw [hm]; rfl) ?_
          refine cpS (As := [.long ((bfT mi k ||| bbT mi k)), .int 61, .int (bI (mi && decide (k = 0)))]) (rest := [.int (nI k), .ref la]) (k_X3_lostInLine l D cA _ ((bfT mi k ||| bbT mi k)) 61 (mi && decide (k = 0))) ⟨hx, hb, hml, hown, hts⟩ (va_cwS 3 hts gX3_fillBoth_X3_lostInLine rfl rfl rfl (by decide +kernel) ⟨by decide, by decide⟩) hK hM rfl hl.1 rfl (Nat.le_of_ble_eq_true rfl) dX3_fillBoth_38 ⟨by decide, by decide⟩ ?_
          refine m_lastN (k := k) hx hb hK hh hla (rfl) (by omega) (by decide) dX3_fillBoth_41 (fun M1 H1 locs1 e1 hh => ?_)
          have hla := mu_at e1
          have hkp := hkp.put e1 (by simp)
          have hla : M1 la = some (.inl (cA 0, 61, .inr (.inl (vp_updL f k (liF ((bfT mi k ||| bbT mi k)) 61 (mi && decide (k = 0))))))) := hla
          have hM := hh.1
          refine lv_lload_n hx hb dX3_fillBoth_42 rfl (lv_at hl 2 rfl) ?_
          refine lv_aload_n hx hb dX3_fillBoth_43 rfl (lv_at hl 0 rfl) ?_
          refine lv_iload hx hb dX3_fillBoth_44 (lv_at hl 4 rfl) ?_
          refine m_laldN (k := k) hx hb hK hM hla (rfl) (by omega) (by decide) dX3_fillBoth_46 ?_
          refine tpl (x' := tbI 1 mi k) (by rw [pk_uLs, bo_step mi k (by omega)]) ?_
          refine lv_lor hx hb dX3_fillBoth_47 ?_
          refine tpl (x' := bfT mi (k + 1)) (rfl) ?_
          refine lv_lstore_n (lv' := [(2, .long (bfT mi (k + 1))), (0, .ref la), (1, .int (bI mi)), (4, .long (bbT mi k)), (6, .int (nI k))]) hx hb dX3_fillBoth_48 rfl hl (by decide) rfl (fun ls hl => ?_)
          refine lv_lload hx hb dX3_fillBoth_49 (lv_at hl 3 rfl) ?_
          refine lv_aload_n hx hb dX3_fillBoth_51 rfl (lv_at hl 1 rfl) ?_
          refine lv_iload hx hb dX3_fillBoth_52 (lv_at hl 4 rfl) ?_
          refine m_laldN (k := k) hx hb hK hM hla (rfl) (by omega) (by decide) dX3_fillBoth_54 ?_
          refine tpl (x' := tbI 1 mi k) (by rw [pk_uLs, bo_step mi k (by omega)]) ?_
          refine lv_lor hx hb dX3_fillBoth_55 ?_
          refine lv_iconst (v := 1) hx hb dX3_fillBoth_56 (by decide) ?_
          refine lv_lshl hx hb dX3_fillBoth_57 rfl ?_
          refine tpl (x' := bbT mi (k + 1)) (rfl) ?_
          refine lv_lstore (lv' := [(4, .long (bbT mi (k + 1))), (2, .long (bfT mi (k + 1))), (0, .ref la), (1, .int (bI mi)), (6, .int (nI k))]) hx hb dX3_fillBoth_58 hl (by decide) rfl (fun ls hl => ?_)
          refine lv_iinc (v := nI (k + 1)) (lv' := [(6, .int (nI (k + 1))), (4, .long (bbT mi (k + 1))), (2, .long (bfT mi (k + 1))), (0, .ref la), (1, .int (bI mi))]) hx hb dX3_fillBoth_60 hl (k := 4) rfl (nI_up k) (by decide) rfl (fun ls hl => ?_)
          refine lv_goto (tgt := 8) hx hb dX3_fillBoth_63 (by decide) ?_
          exact ih_8 (k + 1) ((vp_updL f k (liF ((bfT mi k ||| bbT mi k)) 61 (mi && decide (k = 0))))) _ _ _ _ (by omega) (fun j hj => by by_cases e : j = k; rw [e, pk_uLs, bo_step mi k (by omega)]; rw [pk_uLn e]; exact hf j (by omega)) hh hkp hla (by omega) (lv_sub hl [3, 4, 2, 1, 0] rfl)
        · skip
          have hm := bI_ne0 c_25
          refine lv_iload hx hb dX3_fillBoth_28 (lv_at hl 4 rfl) ?_
          refine bz_ne (tgt := 37) hx hb dX3_fillBoth_30 (by decide) (fun c_30 n_30 => ?_) (fun c_30 n_30 => ?_)
          · skip
            have hk0 : ¬ k = 0 := fun z => c_30 (by rw [z]; rfl)
            refine lv_iconst (v := 0) hx hb dX3_fillBoth_37 (by decide) ?_
            refine tpi (x' := bI (mi && decide (k = 0))) (by rw [hm, decide_eq_false hk0]; rfl) ?_
            refine cpS (As := [.long ((bfT mi k ||| bbT mi k)), .int 61, .int (bI (mi && decide (k = 0)))]) (rest := [.int (nI k), .ref la]) (k_X3_lostInLine l D cA _ ((bfT mi k ||| bbT mi k)) 61 (mi && decide (k = 0))) ⟨hx, hb, hml, hown, hts⟩ (va_cwS 3 hts gX3_fillBoth_X3_lostInLine rfl rfl rfl (by decide +kernel) ⟨by decide, by decide⟩) hK hM rfl hl.1 rfl (Nat.le_of_ble_eq_true rfl) dX3_fillBoth_38 ⟨by decide, by decide⟩ ?_
            refine m_lastN (k := k) hx hb hK hh hla (rfl) (by omega) (by decide) dX3_fillBoth_41 (fun M1 H1 locs1 e1 hh => ?_)
            have hla := mu_at e1
            have hkp := hkp.put e1 (by simp)
            have hla : M1 la = some (.inl (cA 0, 61, .inr (.inl (vp_updL f k (liF ((bfT mi k ||| bbT mi k)) 61 (mi && decide (k = 0))))))) := hla
            have hM := hh.1
            refine lv_lload_n hx hb dX3_fillBoth_42 rfl (lv_at hl 2 rfl) ?_
            refine lv_aload_n hx hb dX3_fillBoth_43 rfl (lv_at hl 0 rfl) ?_
            refine lv_iload hx hb dX3_fillBoth_44 (lv_at hl 4 rfl) ?_
            refine m_laldN (k := k) hx hb hK hM hla (rfl) (by omega) (by decide) dX3_fillBoth_46 ?_
            refine tpl (x' := tbI 1 mi k) (by rw [pk_uLs, bo_step mi k (by omega)]) ?_
            refine lv_lor hx hb dX3_fillBoth_47 ?_
            refine tpl (x' := bfT mi (k + 1)) (rfl) ?_
            refine lv_lstore_n (lv' := [(2, .long (bfT mi (k + 1))), (0, .ref la), (1, .int (bI mi)), (4, .long (bbT mi k)), (6, .int (nI k))]) hx hb dX3_fillBoth_48 rfl hl (by decide) rfl (fun ls hl => ?_)
            refine lv_lload hx hb dX3_fillBoth_49 (lv_at hl 3 rfl) ?_
            refine lv_aload_n hx hb dX3_fillBoth_51 rfl (lv_at hl 1 rfl) ?_
            refine lv_iload hx hb dX3_fillBoth_52 (lv_at hl 4 rfl) ?_
            refine m_laldN (k := k) hx hb hK hM hla (rfl) (by omega) (by decide) dX3_fillBoth_54 ?_
            refine tpl (x' := tbI 1 mi k) (by rw [pk_uLs, bo_step mi k (by omega)]) ?_
            refine lv_lor hx hb dX3_fillBoth_55 ?_
            refine lv_iconst (v := 1) hx hb dX3_fillBoth_56 (by decide) ?_
            refine lv_lshl hx hb dX3_fillBoth_57 rfl ?_
            refine tpl (x' := bbT mi (k + 1)) (rfl) ?_
            refine lv_lstore (lv' := [(4, .long (bbT mi (k + 1))), (2, .long (bfT mi (k + 1))), (0, .ref la), (1, .int (bI mi)), (6, .int (nI k))]) hx hb dX3_fillBoth_58 hl (by decide) rfl (fun ls hl => ?_)
            refine lv_iinc (v := nI (k + 1)) (lv' := [(6, .int (nI (k + 1))), (4, .long (bbT mi (k + 1))), (2, .long (bfT mi (k + 1))), (0, .ref la), (1, .int (bI mi))]) hx hb dX3_fillBoth_60 hl (k := 4) rfl (nI_up k) (by decide) rfl (fun ls hl => ?_)
            refine lv_goto (tgt := 8) hx hb dX3_fillBoth_63 (by decide) ?_
            exact ih_8 (k + 1) ((vp_updL f k (liF ((bfT mi k ||| bbT mi k)) 61 (mi && decide (k = 0))))) _ _ _ _ (by omega) (fun j hj => by by_cases e : j = k; rw [e, pk_uLs, bo_step mi k (by omega)]; rw [pk_uLn e]; exact hf j (by omega)) hh hkp hla (by omega) (lv_sub hl [3, 4, 2, 1, 0] rfl)
          · skip
            have hk0 : k = 0 := (nI_eq (b := 0) (by omega) (by decide)).mp c_30
            refine lv_iconst (v := 1) hx hb dX3_fillBoth_33 (by decide) ?_
            refine tpi (x' := bI (mi && decide (k = 0))) (by rw [hm, decide_eq_true hk0]; rfl) ?_
            refine lv_goto (tgt := 38) hx hb dX3_fillBoth_34 (by decide) ?_
            refine cpS (As := [.long ((bfT mi k ||| bbT mi k)), .int 61, .int (bI (mi && decide (k = 0)))]) (rest := [.int (nI k), .ref la]) (k_X3_lostInLine l D cA _ ((bfT mi k ||| bbT mi k)) 61 (mi && decide (k = 0))) ⟨hx, hb, hml, hown, hts⟩ (va_cwS 3 hts gX3_fillBoth_X3_lostInLine rfl rfl rfl (by decide +kernel) ⟨by decide, by decide⟩) hK hM rfl hl.1 rfl (Nat.le_of_ble_eq_true rfl) dX3_fillBoth_38 ⟨by decide, by decide⟩ ?_
            refine m_lastN (k := k) hx hb hK hh hla (rfl) (by omega) (by decide) dX3_fillBoth_41 (fun M1 H1 locs1 e1 hh => ?_)
            have hla := mu_at e1
            have hkp := hkp.put e1 (by simp)
            have hla : M1 la = some (.inl (cA 0, 61, .inr (.inl (vp_updL f k (liF ((bfT mi k ||| bbT mi k)) 61 (mi && decide (k = 0))))))) := hla
            have hM := hh.1
            refine lv_lload_n hx hb dX3_fillBoth_42 rfl (lv_at hl 2 rfl) ?_
            refine lv_aload_n hx hb dX3_fillBoth_43 rfl (lv_at hl 0 rfl) ?_
            refine lv_iload hx hb dX3_fillBoth_44 (lv_at hl 4 rfl) ?_
            refine m_laldN (k := k) hx hb hK hM hla (rfl) (by omega) (by decide) dX3_fillBoth_46 ?_
            refine tpl (x' := tbI 1 mi k) (by rw [pk_uLs, bo_step mi k (by omega)]) ?_
            refine lv_lor hx hb dX3_fillBoth_47 ?_
            refine tpl (x' := bfT mi (k + 1)) (rfl) ?_
            refine lv_lstore_n (lv' := [(2, .long (bfT mi (k + 1))), (0, .ref la), (1, .int (bI mi)), (4, .long (bbT mi k)), (6, .int (nI k))]) hx hb dX3_fillBoth_48 rfl hl (by decide) rfl (fun ls hl => ?_)
            refine lv_lload hx hb dX3_fillBoth_49 (lv_at hl 3 rfl) ?_
            refine lv_aload_n hx hb dX3_fillBoth_51 rfl (lv_at hl 1 rfl) ?_
            refine lv_iload hx hb dX3_fillBoth_52 (lv_at hl 4 rfl) ?_
            refine m_laldN (k := k) hx hb hK hM hla (rfl) (by omega) (by decide) dX3_fillBoth_54 ?_
            refine tpl (x' := tbI 1 mi k) (by rw [pk_uLs, bo_step mi k (by omega)]) ?_
            refine lv_lor hx hb dX3_fillBoth_55 ?_
            refine lv_iconst (v := 1) hx hb dX3_fillBoth_56 (by decide) ?_
            refine lv_lshl hx hb dX3_fillBoth_57 rfl ?_
            refine tpl (x' := bbT mi (k + 1)) (rfl) ?_
            refine lv_lstore (lv' := [(4, .long (bbT mi (k + 1))), (2, .long (bfT mi (k + 1))), (0, .ref la), (1, .int (bI mi)), (6, .int (nI k))]) hx hb dX3_fillBoth_58 hl (by decide) rfl (fun ls hl => ?_)
            refine lv_iinc (v := nI (k + 1)) (lv' := [(6, .int (nI (k + 1))), (4, .long (bbT mi (k + 1))), (2, .long (bfT mi (k + 1))), (0, .ref la), (1, .int (bI mi))]) hx hb dX3_fillBoth_60 hl (k := 4) rfl (nI_up k) (by decide) rfl (fun ls hl => ?_)
            refine lv_goto (tgt := 8) hx hb dX3_fillBoth_63 (by decide) ?_
            exact ih_8 (k + 1) ((vp_updL f k (liF ((bfT mi k ||| bbT mi k)) 61 (mi && decide (k = 0))))) _ _ _ _ (by omega) (fun j hj => by by_cases e : j = k; rw [e, pk_uLs, bo_step mi k (by omega)]; rw [pk_uLn e]; exact hf j (by omega)) hh hkp hla (by omega) (lv_sub hl [3, 4, 2, 1, 0] rfl)
  exact j_8 (62) 0 f0 _ _ _ _ (Nat.zero_le _) (fun j hj => absurd hj (Nat.not_lt_zero _)) hh hkp hla (by omega) (lv_sub hl [3, 4, 2, 1, 0] rfl)
set_option maxHeartbeats 1000000 in
set_option maxRecDepth 100000 in
theorem k_X3_fillThree (l : Launch) (D : va_G) (cA : Nat → ClassId) (M : mp) (la : Nat) (mi : Bool) (f0 : Nat → Int64) (hla : M la = some (.inl (cA 0, 121, .inr (.inl f0)))) : MC l D cA yX3_fillThree wsX3_fillThree 1 27 0 0 [.ref la, .int (bI mi)] M (fun r M' => r = none ∧ (∃ f', M' la = some (.inl (cA 0, 121, .inr (.inl f'))) ∧ ∀ j, j < 121 → f' j = tbI 3 mi j) ∧ kpL M M' [la]) := by
  refine MC.of (cc := cX3_fillThree) (maxL := 5) (ret := none) (by decide) rfl (Nat.le_of_ble_eq_true rfl) ?_
  intro p e s m args below meth c Q ls B hh hl hretv hreti hretz hretl hreta
  obtain ⟨hx, hb, hown, hts, hml, hK, hin⟩ := B
  have hM := hh.1
  have hM_0 := hh.1
  have hkp : kpL M M [la] := kpL.rf M _
  have hown : s.vm.findClass RX3 = some m.cls := hown
  have hl : lv_has ls 5 [(0, .ref la), (1, .int (bI mi))] := hl
  refine lv_iconst (v := 0) hx hb dX3_fillThree_0 (by decide) ?_
  refine tpi (x' := nI 0) (rfl) ?_
  refine lv_istore_n (lv' := [(2, .int (nI 0)), (0, .ref la), (1, .int (bI mi))]) hx hb dX3_fillThree_1 rfl hl (by decide) rfl (fun ls hl => ?_)
  have j_2 : ∀ (fu : Nat) (a : Nat) (f : Nat → Int64) (M1 : mp) (H : Heap) (locs : List Loc) (ls : Array Slot), (a ≤ 11) → (∀ j, j < 11 * a → f j = tbI 3 mi j) → (hw D M s.heap M1 H locs) → (kpL M M1 [la]) → (M1 la = some (.inl (cA 0, 121, .inr (.inl f)))) → (11 - a < fu) → lv_has ls 5 [(0, .ref la), (1, .int (bI mi)), (2, .int (nI a))] → W p l e ({ frames := 1, cells := 0, slots := 0, locals := 27 } : Room) s m args below meth c H locs 0 0 Q (F0 m 2 ls []) := by
    intro fu
    induction fu with
    | zero => intro a f M1 H locs ls ha hf hh hkp hla hm_2 _; exact absurd hm_2 (Nat.not_lt_zero _)
    | succ fu ih_2 =>
      intro a f M1 H locs ls ha hf hh hkp hla hm_2 hl
      have hM := hh.1
      refine lv_iload_n hx hb dX3_fillThree_2 rfl (lv_at hl 2 rfl) ?_
      refine lv_bipush (v := 11) hx hb dX3_fillThree_3 (by decide) ?_
      refine bi_ge (tgt := 65) hx hb dX3_fillThree_5 (by decide) (fun c_5 n_5 => ?_) (fun c_5 n_5 => ?_)
      · skip
        have hge : 11 ≤ a := (nI_leI (a := 11) (by decide) (by omega)).mp c_5
        exact hretv _ _ _ _ _ _ _ hh (⟨rfl, ⟨f, hla, fun j hj => hf j (by omega)⟩, hkp⟩) (by decide) (by decide) dX3_fillThree_65 rfl
      · skip
        have hlt : a < 11 := (nI_ltI (b := 11) (by omega) (by decide)).mp c_5
        refine lv_iconst (v := 0) hx hb dX3_fillThree_8 (by decide) ?_
        refine tpi (x' := nI 0) (rfl) ?_
        refine lv_istore_n (lv' := [(3, .int (nI 0)), (0, .ref la), (1, .int (bI mi)), (2, .int (nI a))]) hx hb dX3_fillThree_9 rfl hl (by decide) rfl (fun ls hl => ?_)
        have j_10 : ∀ (fu : Nat) (b : Nat) (f : Nat → Int64) (M1 : mp) (H : Heap) (locs : List Loc) (ls : Array Slot), (b ≤ 11) → (∀ j, j < 11 * a + b → f j = tbI 3 mi j) → (hw D M s.heap M1 H locs) → (kpL M M1 [la]) → (M1 la = some (.inl (cA 0, 121, .inr (.inl f)))) → (11 - b < fu) → lv_has ls 5 [(0, .ref la), (1, .int (bI mi)), (2, .int (nI a)), (3, .int (nI b))] → W p l e ({ frames := 1, cells := 0, slots := 0, locals := 27 } : Room) s m args below meth c H locs 0 0 Q (F0 m 10 ls []) := by
          intro fu
          induction fu with
          | zero => intro b f M1 H locs ls hb0 hf hh hkp hla hm_10 _; exact absurd hm_10 (Nat.not_lt_zero _)
          | succ fu ih_10 =>
            intro b f M1 H locs ls hb0 hf hh hkp hla hm_10 hl
            have hM := hh.1
            refine lv_iload_n hx hb dX3_fillThree_10 rfl (lv_at hl 3 rfl) ?_
            refine lv_bipush (v := 11) hx hb dX3_fillThree_11 (by decide) ?_
            refine bi_ge (tgt := 59) hx hb dX3_fillThree_13 (by decide) (fun c_13 n_13 => ?_) (fun c_13 n_13 => ?_)
            · skip
              have hge : 11 ≤ b := (nI_leI (a := 11) (by decide) (by omega)).mp c_13
              refine lv_iinc (v := nI (a + 1)) (lv' := [(2, .int (nI (a + 1))), (0, .ref la), (1, .int (bI mi)), (3, .int (nI b))]) hx hb dX3_fillThree_59 hl (k := 2) rfl (nI_up a) (by decide) rfl (fun ls hl => ?_)
              refine lv_goto (tgt := 2) hx hb dX3_fillThree_62 (by decide) ?_
              exact ih_2 (a + 1) f _ _ _ _ (by omega) (fun j hj => hf j (by omega)) hh hkp hla (by omega) (lv_sub hl [1, 2, 0] rfl)
            · skip
              have hlt2 : b < 11 := (nI_ltI (b := 11) (by omega) (by decide)).mp c_13
              have hwb : wbI f a b = wbI (tbI 3 mi) a b := by unfold wbI; rw [orA_cong _ _ (fun k h1 h2 => by rw [hf _ (by omega)]), orA_cong b _ (fun k h1 h2 => hf _ (by omega)), orA_cong a _ (fun k h1 h2 => hf _ (by omega))]
              refine lv_iload_n hx hb dX3_fillThree_16 rfl (lv_at hl 2 rfl) ?_
              refine lv_bipush (v := 11) hx hb dX3_fillThree_17 (by decide) ?_
              refine lv_imul hx hb dX3_fillThree_19 ?_
              refine tpi (x' := nI (a * 11)) (pk_mul a 11) ?_
              refine lv_iload_n hx hb dX3_fillThree_20 rfl (lv_at hl 3 rfl) ?_
              refine lv_iadd hx hb dX3_fillThree_21 ?_
              refine tpi (x' := nI (11 * a + b)) (by rw [nI_add]; congr 1; omega) ?_
              refine lv_istore (lv' := [(4, .int (nI (11 * a + b))), (0, .ref la), (1, .int (bI mi)), (2, .int (nI a)), (3, .int (nI b))]) hx hb dX3_fillThree_22 hl (by decide) rfl (fun ls hl => ?_)
              refine lv_aload_n hx hb dX3_fillThree_24 rfl (lv_at hl 1 rfl) ?_
              refine lv_iload hx hb dX3_fillThree_25 (lv_at hl 0 rfl) ?_
              refine lv_aload_n hx hb dX3_fillThree_27 rfl (lv_at hl 1 rfl) ?_
              refine lv_iload_n hx hb dX3_fillThree_28 rfl (lv_at hl 3 rfl) ?_
              refine lv_iload_n hx hb dX3_fillThree_29 rfl (lv_at hl 4 rfl) ?_
              refine cpS (As := [.ref la, .int (nI a), .int (nI b)]) (rest := [.int (nI (11 * a + b)), .ref la]) (k_X3_wonByTaking l D cA _ la a b f hla (by omega) (by omega)) ⟨hx, hb, hml, hown, hts⟩ (va_cwS 3 hts gX3_fillThree_X3_wonByTaking rfl rfl rfl (by decide +kernel) ⟨by decide, by decide⟩) hK hM rfl hl.1 rfl (Nat.le_of_ble_eq_true rfl) dX3_fillThree_30 ⟨by decide, by decide⟩ ?_
              refine tpl (x' := wbI (tbI 3 mi) a b) (hwb) ?_
              refine lv_bipush (v := 11) hx hb dX3_fillThree_33 (by decide) ?_
              refine lv_iload_n hx hb dX3_fillThree_35 rfl (lv_at hl 2 rfl) ?_
              refine bz_eq (tgt := 48) hx hb dX3_fillThree_36 (by decide) (fun c_36 n_36 => ?_) (fun c_36 n_36 => ?_)
              · skip
                have hm := bI_eq0 c_36
                refine lv_iconst (v := 0) hx hb dX3_fillThree_48 (by decide) ?_
                refine tpi (x' := bI (mi && decide (11 * a + b = 0))) (by rw [hm]; rfl) ?_
                refine cpS (As := [.long (wbI (tbI 3 mi) a b), .int 11, .int (bI (mi && decide (11 * a + b = 0)))]) (rest := [.int (nI (11 * a + b)), .ref la]) (k_X3_lostInLine l D cA _ (wbI (tbI 3 mi) a b) 11 (mi && decide (11 * a + b = 0))) ⟨hx, hb, hml, hown, hts⟩ (va_cwS 3 hts gX3_fillThree_X3_lostInLine rfl rfl rfl (by decide +kernel) ⟨by decide, by decide⟩) hK hM rfl hl.1 rfl (Nat.le_of_ble_eq_true rfl) dX3_fillThree_49 ⟨by decide, by decide⟩ ?_
                refine tpl (x' := tbI 3 mi (11 * a + b)) (th_step mi a hlt b hlt2) ?_
                refine m_lastN (k := 11 * a + b) hx hb hK hh hla (rfl) (by omega) (by decide) dX3_fillThree_52 (fun M1 H1 locs1 e1 hh => ?_)
                have hla := mu_at e1
                have hkp := hkp.put e1 (by simp)
                have hla : M1 la = some (.inl (cA 0, 121, .inr (.inl (vp_updL f (11 * a + b) (tbI 3 mi (11 * a + b)))))) := hla
                have hM := hh.1
                refine lv_iinc (v := nI (b + 1)) (lv' := [(3, .int (nI (b + 1))), (4, .int (nI (11 * a + b))), (0, .ref la), (1, .int (bI mi)), (2, .int (nI a))]) hx hb dX3_fillThree_53 hl (k := 4) rfl (nI_up b) (by decide) rfl (fun ls hl => ?_)
                refine lv_goto (tgt := 10) hx hb dX3_fillThree_56 (by decide) ?_
                exact ih_10 (b + 1) ((vp_updL f (11 * a + b) (tbI 3 mi (11 * a + b)))) _ _ _ _ (by omega) (fun j hj => by by_cases e : j = 11 * a + b; rw [e, pk_uLs]; rw [pk_uLn e]; exact hf j (by omega)) hh hkp hla (by omega) (lv_sub hl [2, 3, 4, 0] rfl)
              · skip
                have hm := bI_ne0 c_36
                refine lv_iload hx hb dX3_fillThree_39 (lv_at hl 0 rfl) ?_
                refine bz_ne (tgt := 48) hx hb dX3_fillThree_41 (by decide) (fun c_41 n_41 => ?_) (fun c_41 n_41 => ?_)
                · skip
                  have hk0 : ¬ 11 * a + b = 0 := fun z => c_41 (by rw [z]; rfl)
                  refine lv_iconst (v := 0) hx hb dX3_fillThree_48 (by decide) ?_
                  refine tpi (x' := bI (mi && decide (11 * a + b = 0))) (by rw [hm, decide_eq_false hk0]; rfl) ?_
                  refine cpS (As := [.long (wbI (tbI 3 mi) a b), .int 11, .int (bI (mi && decide (11 * a + b = 0)))]) (rest := [.int (nI (11 * a + b)), .ref la]) (k_X3_lostInLine l D cA _ (wbI (tbI 3 mi) a b) 11 (mi && decide (11 * a + b = 0))) ⟨hx, hb, hml, hown, hts⟩ (va_cwS 3 hts gX3_fillThree_X3_lostInLine rfl rfl rfl (by decide +kernel) ⟨by decide, by decide⟩) hK hM rfl hl.1 rfl (Nat.le_of_ble_eq_true rfl) dX3_fillThree_49 ⟨by decide, by decide⟩ ?_
                  refine tpl (x' := tbI 3 mi (11 * a + b)) (th_step mi a hlt b hlt2) ?_
                  refine m_lastN (k := 11 * a + b) hx hb hK hh hla (rfl) (by omega) (by decide) dX3_fillThree_52 (fun M1 H1 locs1 e1 hh => ?_)
                  have hla := mu_at e1
                  have hkp := hkp.put e1 (by simp)
                  have hla : M1 la = some (.inl (cA 0, 121, .inr (.inl (vp_updL f (11 * a + b) (tbI 3 mi (11 * a + b)))))) := hla
                  have hM := hh.1
                  refine lv_iinc (v := nI (b + 1)) (lv' := [(3, .int (nI (b + 1))), (4, .int (nI (11 * a + b))), (0, .ref la), (1, .int (bI mi)), (2, .int (nI a))]) hx hb dX3_fillThree_53 hl (k := 4) rfl (nI_up b) (by decide) rfl (fun ls hl => ?_)
                  refine lv_goto (tgt := 10) hx hb dX3_fillThree_56 (by decide) ?_
                  exact ih_10 (b + 1) ((vp_updL f (11 * a + b) (tbI 3 mi (11 * a + b)))) _ _ _ _ (by omega) (fun j hj => by by_cases e : j = 11 * a + b; rw [e, pk_uLs]; rw [pk_uLn e]; exact hf j (by omega)) hh hkp hla (by omega) (lv_sub hl [2, 3, 4, 0] rfl)
                · skip
                  have hk0 : 11 * a + b = 0 := (nI_eq (b := 0) (by omega) (by decide)).mp c_41
                  refine lv_iconst (v := 1) hx hb dX3_fillThree_44 (by decide) ?_
                  refine tpi (x' := bI (mi && decide (11 * a + b = 0))) (by rw [hm, decide_eq_true hk0]; rfl) ?_
                  refine lv_goto (tgt := 49) hx hb dX3_fillThree_45 (by decide) ?_
                  refine cpS (As := [.long (wbI (tbI 3 mi) a b), .int 11, .int (bI (mi && decide (11 * a + b = 0)))]) (rest := [.int (nI (11 * a + b)), .ref la]) (k_X3_lostInLine l D cA _ (wbI (tbI 3 mi) a b) 11 (mi && decide (11 * a + b = 0))) ⟨hx, hb, hml, hown, hts⟩ (va_cwS 3 hts gX3_fillThree_X3_lostInLine rfl rfl rfl (by decide +kernel) ⟨by decide, by decide⟩) hK hM rfl hl.1 rfl (Nat.le_of_ble_eq_true rfl) dX3_fillThree_49 ⟨by decide, by decide⟩ ?_
                  refine tpl (x' := tbI 3 mi (11 * a + b)) (th_step mi a hlt b hlt2) ?_
                  refine m_lastN (k := 11 * a + b) hx hb hK hh hla (rfl) (by omega) (by decide) dX3_fillThree_52 (fun M1 H1 locs1 e1 hh => ?_)
                  have hla := mu_at e1
                  have hkp := hkp.put e1 (by simp)
                  have hla : M1 la = some (.inl (cA 0, 121, .inr (.inl (vp_updL f (11 * a + b) (tbI 3 mi (11 * a + b)))))) := hla
                  have hM := hh.1
                  refine lv_iinc (v := nI (b + 1)) (lv' := [(3, .int (nI (b + 1))), (4, .int (nI (11 * a + b))), (0, .ref la), (1, .int (bI mi)), (2, .int (nI a))]) hx hb dX3_fillThree_53 hl (k := 4) rfl (nI_up b) (by decide) rfl (fun ls hl => ?_)
                  refine lv_goto (tgt := 10) hx hb dX3_fillThree_56 (by decide) ?_
                  exact ih_10 (b + 1) ((vp_updL f (11 * a + b) (tbI 3 mi (11 * a + b)))) _ _ _ _ (by omega) (fun j hj => by by_cases e : j = 11 * a + b; rw [e, pk_uLs]; rw [pk_uLn e]; exact hf j (by omega)) hh hkp hla (by omega) (lv_sub hl [2, 3, 4, 0] rfl)
        exact j_10 (12) 0 f _ _ _ _ (Nat.zero_le _) (fun j hj => hf j (by omega)) hh hkp hla (by omega) (lv_sub hl [1, 2, 3, 0] rfl)
  exact j_2 (12) 0 f0 _ _ _ _ (Nat.zero_le _) (fun j hj => absurd hj (Nat.not_lt_zero _)) hh hkp hla (by omega) (lv_sub hl [1, 2, 0] rfl)
set_option maxHeartbeats 1000000 in
set_option maxRecDepth 100000 in
theorem k_X3_fillShares (l : Launch) (D : va_G) (cA : Nat → ClassId) (M : mp) (la : Nat) (mi : Bool) (f0 : Nat → Int64) (hla : M la = some (.inl (cA 0, 61, .inr (.inl f0)))) (hz0 : ∀ j, f0 j = 0) : MC l D cA yX3_fillShares wsX3_fillShares 1 24 0 0 [.ref la, .int (bI mi)] M (fun r M' => r = none ∧ (∃ f', M' la = some (.inl (cA 0, 61, .inr (.inl f'))) ∧ ∀ j, j < 61 → f' j = tbI 0 mi j) ∧ kpL M M' [la]) := by
  refine MC.of (cc := cX3_fillShares) (maxL := 6) (ret := none) (by decide) rfl (Nat.le_of_ble_eq_true rfl) ?_
  intro p e s m args below meth c Q ls B hh hl hretv hreti hretz hretl hreta
  obtain ⟨hx, hb, hown, hts, hml, hK, hin⟩ := B
  have hM := hh.1
  have hM_0 := hh.1
  have hkp : kpL M M [la] := kpL.rf M _
  have hown : s.vm.findClass RX3 = some m.cls := hown
  have hl : lv_has ls 6 [(0, .ref la), (1, .int (bI mi))] := hl
  have ml_35 := hts (.methodLink RX3 35 Lib.Math.min.name) (by decide +kernel)
  have ms_35 := hts (.static Lib.Math.min.name) (by decide +kernel)
  have mi_math := hts (.initialized "java/lang/Math") (by decide +kernel)
  have mc_35 := hts (.code Lib.Math.min.name Lib.Math.min.code 2 (some .int)) (by decide +kernel)
  have ml_41 := hts (.methodLink RX3 41 Lib.Math.max.name) (by decide +kernel)
  have ms_41 := hts (.static Lib.Math.max.name) (by decide +kernel)
  have mc_41 := hts (.code Lib.Math.max.name Lib.Math.max.code 2 (some .int)) (by decide +kernel)
  refine lv_iconst (v := 0) hx hb dX3_fillShares_0 (by decide) ?_
  refine tpi (x' := nI 0) (rfl) ?_
  refine lv_istore_n (lv' := [(2, .int (nI 0)), (0, .ref la), (1, .int (bI mi))]) hx hb dX3_fillShares_1 rfl hl (by decide) rfl (fun ls hl => ?_)
  have j_2 : ∀ (fu : Nat) (a : Nat) (f : Nat → Int64) (M1 : mp) (H : Heap) (locs : List Loc) (ls : Array Slot), (a ≤ 61) → (∀ j, j < a → f j = tbI 0 mi j) → (∀ j, a ≤ j → f j = 0) → (hw D M s.heap M1 H locs) → (kpL M M1 [la]) → (M1 la = some (.inl (cA 0, 61, .inr (.inl f)))) → (61 - a < fu) → lv_has ls 6 [(0, .ref la), (1, .int (bI mi)), (2, .int (nI a))] → W p l e ({ frames := 1, cells := 0, slots := 0, locals := 24 } : Room) s m args below meth c H locs 0 0 Q (F0 m 2 ls []) := by
    intro fu
    induction fu with
    | zero => intro a f M1 H locs ls ha hf hf0 hh hkp hla hm_2 _; exact absurd hm_2 (Nat.not_lt_zero _)
    | succ fu ih_2 =>
      intro a f M1 H locs ls ha hf hf0 hh hkp hla hm_2 hl
      have hM := hh.1
      refine lv_iload_n hx hb dX3_fillShares_2 rfl (lv_at hl 2 rfl) ?_
      refine lv_bipush (v := 61) hx hb dX3_fillShares_3 (by decide) ?_
      refine bi_ge (tgt := 74) hx hb dX3_fillShares_5 (by decide) (fun c_5 n_5 => ?_) (fun c_5 n_5 => ?_)
      · skip
        have hge : 61 ≤ a := (nI_leI (a := 61) (by decide) (by omega)).mp c_5
        exact hretv _ _ _ _ _ _ _ hh (⟨rfl, ⟨f, hla, fun j hj => hf j (by omega)⟩, hkp⟩) (by decide) (by decide) dX3_fillShares_74 rfl
      · skip
        have hlt : a < 61 := (nI_ltI (b := 61) (by omega) (by decide)).mp c_5
        refine lv_iconst (v := 0) hx hb dX3_fillShares_8 (by decide) ?_
        refine tpi (x' := nI 0) (rfl) ?_
        refine lv_istore_n (lv' := [(3, .int (nI 0)), (0, .ref la), (1, .int (bI mi)), (2, .int (nI a))]) hx hb dX3_fillShares_9 rfl hl (by decide) rfl (fun ls hl => ?_)
        have j_10 : ∀ (fu : Nat) (b : Nat) (f : Nat → Int64) (M1 : mp) (H : Heap) (locs : List Loc) (ls : Array Slot), (b ≤ 61) → (∀ j, j < a → f j = tbI 0 mi j) → (f a = shl mi a b) → (∀ j, a < j → f j = 0) → (hw D M s.heap M1 H locs) → (kpL M M1 [la]) → (M1 la = some (.inl (cA 0, 61, .inr (.inl f)))) → (61 - b < fu) → lv_has ls 6 [(0, .ref la), (1, .int (bI mi)), (2, .int (nI a)), (3, .int (nI b))] → W p l e ({ frames := 1, cells := 0, slots := 0, locals := 24 } : Room) s m args below meth c H locs 0 0 Q (F0 m 10 ls []) := by
          intro fu
          induction fu with
          | zero => intro b f M1 H locs ls hb0 hf hfa hf0 hh hkp hla hm_10 _; exact absurd hm_10 (Nat.not_lt_zero _)
          | succ fu ih_10 =>
            intro b f M1 H locs ls hb0 hf hfa hf0 hh hkp hla hm_10 hl
            have hM := hh.1
            refine lv_iload_n hx hb dX3_fillShares_10 rfl (lv_at hl 3 rfl) ?_
            refine lv_bipush (v := 61) hx hb dX3_fillShares_11 (by decide) ?_
            refine bi_ge (tgt := 68) hx hb dX3_fillShares_13 (by decide) (fun c_13 n_13 => ?_) (fun c_13 n_13 => ?_)
            · skip
              have hge : 61 ≤ b := (nI_leI (a := 61) (by decide) (by omega)).mp c_13
              refine lv_iinc (v := nI (a + 1)) (lv' := [(2, .int (nI (a + 1))), (0, .ref la), (1, .int (bI mi)), (3, .int (nI b))]) hx hb dX3_fillShares_68 hl (k := 2) rfl (nI_up a) (by decide) rfl (fun ls hl => ?_)
              refine lv_goto (tgt := 2) hx hb dX3_fillShares_71 (by decide) ?_
              exact ih_2 (a + 1) f _ _ _ _ (by omega) (fun j hj => by by_cases e : j = a; (rw [e, hfa, show b = 61 by omega]; exact sh_end mi a hlt); exact hf j (by omega)) (fun j hj => hf0 j (by omega)) hh hkp hla (by omega) (lv_sub hl [1, 2, 0] rfl)
            · skip
              have hlt2 : b < 61 := (nI_ltI (b := 61) (by omega) (by decide)).mp c_13
              refine lv_iload_n hx hb dX3_fillShares_16 rfl (lv_at hl 2 rfl) ?_
              refine lv_iload_n hx hb dX3_fillShares_17 rfl (lv_at hl 3 rfl) ?_
              refine va_mmin hx hb (by rw [hml]; exact hl.1.symm) hown ml_35 ms_35 mi_math mc_35 (Nat.le_of_ble_eq_true rfl) (Nat.le_of_ble_eq_true rfl) (Nat.le_of_ble_eq_true rfl) (Nat.le_of_ble_eq_true rfl) dX3_fillShares_18 ?_
              refine tpi (x' := nI (min a b)) (min_nI (by omega) (by omega)) ?_
              refine lv_istore (lv' := [(4, .int (nI (min a b))), (0, .ref la), (1, .int (bI mi)), (2, .int (nI a)), (3, .int (nI b))]) hx hb dX3_fillShares_21 hl (by decide) rfl (fun ls hl => ?_)
              have j_46 : ∀ (wz : Bool) (ls : Array Slot), (wz = shw mi a b) → lv_has ls 6 [(4, .int (nI (min a b))), (0, .ref la), (1, .int (bI mi)), (2, .int (nI a)), (3, .int (nI b))] → W p l e ({ frames := 1, cells := 0, slots := 0, locals := 24 } : Room) s m args below meth c H locs 0 0 Q (F0 m 46 ls [.int (bI wz)]) := by
                intro wz ls hwz hl
                refine lv_istore (lv' := [(5, .int (bI wz)), (4, .int (nI (min a b))), (0, .ref la), (1, .int (bI mi)), (2, .int (nI a)), (3, .int (nI b))]) hx hb dX3_fillShares_46 hl (by decide) rfl (fun ls hl => ?_)
                refine lv_iload hx hb dX3_fillShares_48 (lv_at hl 0 rfl) ?_
                refine bz_ne (tgt := 62) hx hb dX3_fillShares_50 (by decide) (fun c_50 n_50 => ?_) (fun c_50 n_50 => ?_)
                · skip
                  have hwt : shw mi a b = true := by rw [← hwz]; exact bI_ne0 c_50
                  refine lv_iinc (v := nI (b + 1)) (lv' := [(3, .int (nI (b + 1))), (5, .int (bI wz)), (4, .int (nI (min a b))), (0, .ref la), (1, .int (bI mi)), (2, .int (nI a))]) hx hb dX3_fillShares_62 hl (k := 5) rfl (nI_up b) (by decide) rfl (fun ls hl => ?_)
                  refine lv_goto (tgt := 10) hx hb dX3_fillShares_65 (by decide) ?_
                  exact ih_10 (b + 1) f _ _ _ _ (by omega) hf (by rw [sh_step mi (by omega) hlt2, hwt, if_pos rfl]; exact hfa) hf0 hh hkp hla (by omega) (lv_sub hl [3, 4, 5, 0] rfl)
                · skip
                  have hwt : shw mi a b = false := by rw [← hwz]; exact bI_eq0 c_50
                  refine lv_aload_n hx hb dX3_fillShares_53 rfl (lv_at hl 2 rfl) ?_
                  refine lv_iload_n hx hb dX3_fillShares_54 rfl (lv_at hl 4 rfl) ?_
                  refine lv_dup2_11 hx hb dX3_fillShares_55 rfl rfl ?_
                  refine m_laldN (k := a) hx hb hK hM hla (rfl) (by omega) (by decide) dX3_fillShares_56 ?_
                  refine tpl (x' := shl mi a b) (hfa) ?_
                  refine lv_lconst (v := 1) hx hb dX3_fillShares_57 (by decide) ?_
                  refine lv_iload_n hx hb dX3_fillShares_58 rfl (lv_at hl 5 rfl) ?_
                  refine lv_lshl hx hb dX3_fillShares_59 rfl ?_
                  refine lv_lor hx hb dX3_fillShares_60 ?_
                  refine m_lastN (k := a) hx hb hK hh hla (rfl) (by omega) (by decide) dX3_fillShares_61 (fun M1 H1 locs1 e1 hh => ?_)
                  have hla := mu_at e1
                  have hkp := hkp.put e1 (by simp)
                  have hla : M1 la = some (.inl (cA 0, 61, .inr (.inl (vp_updL f a (shl mi a b ||| ((1 : Int64) <<< ((nI b : Int32).toInt64 &&& 63))))))) := hla
                  have hM := hh.1
                  refine lv_iinc (v := nI (b + 1)) (lv' := [(3, .int (nI (b + 1))), (5, .int (bI wz)), (4, .int (nI (min a b))), (0, .ref la), (1, .int (bI mi)), (2, .int (nI a))]) hx hb dX3_fillShares_62 hl (k := 5) rfl (nI_up b) (by decide) rfl (fun ls hl => ?_)
                  refine lv_goto (tgt := 10) hx hb dX3_fillShares_65 (by decide) ?_
                  exact ih_10 (b + 1) ((vp_updL f a (shl mi a b ||| ((1 : Int64) <<< ((nI b : Int32).toInt64 &&& 63))))) _ _ _ _ (by omega) (fun j hj => by rw [pk_uLn (by omega)]; exact hf j hj) (by rw [pk_uLs, sh_step mi (by omega) hlt2, hwt, if_neg (by decide)]) (fun j hj => by rw [pk_uLn (by omega)]; exact hf0 j hj) hh hkp hla (by omega) (lv_sub hl [3, 4, 5, 0] rfl)
              refine lv_iload hx hb dX3_fillShares_23 (lv_at hl 0 rfl) ?_
              refine bz_ne (tgt := 32) hx hb dX3_fillShares_25 (by decide) (fun c_25 n_25 => ?_) (fun c_25 n_25 => ?_)
              · skip
                have hmn : ¬ min a b = 0 := fun z => c_25 (by rw [z]; rfl)
                have hfm : f (min a b) = (if b < a then tbI 0 mi b else shl mi a b) := by by_cases e : b < a; (rw [if_pos e, Nat.min_eq_right (by omega)]; exact hf b e); (rw [if_neg e, Nat.min_eq_left (by omega)]; exact hfa)
                refine lv_aload_n hx hb dX3_fillShares_32 rfl (lv_at hl 1 rfl) ?_
                refine lv_iload hx hb dX3_fillShares_33 (lv_at hl 0 rfl) ?_
                refine m_laldN (k := min a b) hx hb hK hM hla (rfl) (by omega) (by decide) dX3_fillShares_35 ?_
                refine lv_iload_n hx hb dX3_fillShares_36 rfl (lv_at hl 3 rfl) ?_
                refine lv_iload_n hx hb dX3_fillShares_37 rfl (lv_at hl 4 rfl) ?_
                refine va_mmax hx hb (by rw [hml]; exact hl.1.symm) hown ml_41 ms_41 mi_math mc_41 (Nat.le_of_ble_eq_true rfl) (Nat.le_of_ble_eq_true rfl) (Nat.le_of_ble_eq_true rfl) (Nat.le_of_ble_eq_true rfl) dX3_fillShares_38 ?_
                refine tpi (x' := nI (max a b)) (max_nI (by omega) (by omega)) ?_
                refine lv_iload hx hb dX3_fillShares_41 (lv_at hl 0 rfl) ?_
                refine cpS (As := [.long (f (min a b)), .int (nI (max a b)), .int (nI (min a b))]) (rest := []) (k_X3_sharesReach l D cA _ (f (min a b)) (max a b) (min a b) (by omega) (by omega) (by omega)) ⟨hx, hb, hml, hown, hts⟩ (va_cwS 3 hts gX3_fillShares_X3_sharesReach rfl rfl rfl (by decide +kernel) ⟨by decide, by decide⟩) hK hM rfl hl.1 rfl (Nat.le_of_ble_eq_true rfl) dX3_fillShares_43 ⟨by decide, by decide⟩ ?_
                exact j_46 (rcI (f (min a b)) (min a b) (max a b + 1) (max a b)) _ (by unfold shw; rw [if_neg hmn, hfm]) (lv_sub hl [0, 1, 2, 3, 4] rfl)
              · skip
                have hmn : min a b = 0 := (nI_eq (b := 0) (by omega) (by decide)).mp c_25
                refine lv_iload_n hx hb dX3_fillShares_28 rfl (lv_at hl 2 rfl) ?_
                refine lv_goto (tgt := 46) hx hb dX3_fillShares_29 (by decide) ?_
                exact j_46 mi _ (by unfold shw; rw [if_pos hmn]) (lv_sub hl [0, 1, 2, 3, 4] rfl)
        exact j_10 (62) 0 f _ _ _ _ (Nat.zero_le _) hf (by rw [hf0 a (Nat.le_refl _), sh_beg]) (fun j hj => hf0 j (by omega)) hh hkp hla (by omega) (lv_sub hl [1, 2, 3, 0] rfl)
  exact j_2 (62) 0 f0 _ _ _ _ (Nat.zero_le _) (fun j hj => absurd hj (Nat.not_lt_zero _)) (fun j _ => hz0 j) hh hkp hla (by omega) (lv_sub hl [1, 2, 0] rfl)
