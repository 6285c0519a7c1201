theorem ov_13 {g : Nat} {hv : Nat → Nat} {bv : Nat} (q0 : ¬ g = 0) (q2 : ¬ g = 2) (hg3 : g ≤ 3) : ovF g hv bv = decide (hv 0 + hv 1 + hv 2 = 0) := by
  unfold ovF
  rw [if_neg q0, if_neg q2]
  by_cases z : hv 0 + hv 1 + hv 2 = 0
  · rw [decide_eq_true z, decide_eq_true (show hv 0 = 0 by omega), decide_eq_true (show hv 1 = 0 by omega), decide_eq_true (show hv 2 = 0 by omega)]
    rfl
  · rw [decide_eq_false z]
    simp
    omega
theorem ov_0 {g w : Nat} {hv : Nat → Nat} {bv : Nat} (q0 : g = 0) (hw : w ≤ 1) (h : ovF g hv bv = false) : 0 < hv (1 - w) := by
  unfold ovF at h
  rw [if_pos q0] at h
  simp at h
  rcases (show w = 0 ∨ w = 1 by omega) with e | e <;> subst e
  · show 0 < hv 1; omega
  · show 0 < hv 0; omega
set_option maxHeartbeats 1000000 in
set_option maxRecDepth 100000 in
theorem k_X9_heap (l : Launch) (D : va_G) (cA : Nat → ClassId) (M : mp) (m0 hp : Nat) (v : Nat → Value) (fh : Nat → Int64) (mv k : Nat) (hv : Nat → Nat)  (hR : M m0 = some (.inr (9, rL v))) (hv11 : v 11 = .int (nI mv)) (hv12 : v 12 = .ref hp) (hhp : M hp = some (.inl (cA 0, 603, .inr (.inl fh)))) (hfh : ∀ k, k < 3 → fh (3 * mv + k) = lN (hv k)) (hmv : mv ≤ 200) (hk : k < 3)  : PC l D cA yX9_heap wsX9_heap 0 0 [.ref m0, .int (nI k)] M (some (.long (lN (hv k)))) := by
  refine PC.lg (cc := cX9_heap) (maxL := 2) (by decide) rfl (Nat.le_of_ble_eq_true rfl) ?_
  intro p e s m args below meth c H Q ls B hM hl hret
  obtain ⟨hx, hb, hown, hts, hml, hK, hin⟩ := B
  have hown : s.vm.findClass RX9 = some m.cls := hown
  have hl : lv_has ls 2 [(0, .ref m0), (1, .int (nI k))] := hl
  have in_X9 : ∀ w ∈ wsX90, w ∈ wsX9_heap := by decide +kernel
  have fl_36 := hts (.fieldLink RX9 36 "GoldHeapsModel" "heaps" "[J") (by decide +kernel)
  have fl_144 := hts (.fieldLink RX9 144 "GoldHeapsModel" "moves" "I") (by decide +kernel)
  refine lv_aload_n hx hb dX9_heap_0 rfl (lv_at hl 0 rfl) ?_
  refine m_get (ci := 9) (C := RX9) (T := TX9) (N := 18) (v := v 12) hx hb hts in_X9 hown hK hM hR rfl 12 (by decide) fl_36 (fun _ h => h) rfl dX9_heap_1 ?_
  refine tpv (hv12) ?_
  refine lv_iconst (v := 3) hx hb dX9_heap_4 (by decide) ?_
  refine lv_aload_n hx hb dX9_heap_5 rfl (lv_at hl 0 rfl) ?_
  refine m_get (ci := 9) (C := RX9) (T := TX9) (N := 18) (v := v 11) hx hb hts in_X9 hown hK hM hR rfl 11 (by decide) fl_144 (fun _ h => h) rfl dX9_heap_6 ?_
  refine tpv (hv11) ?_
  refine lv_imul hx hb dX9_heap_9 ?_
  refine tpi (x' := nI (3 * mv)) (pk_mul 3 mv) ?_
  refine lv_iload_n hx hb dX9_heap_10 rfl (lv_at hl 1 rfl) ?_
  refine lv_iadd hx hb dX9_heap_11 ?_
  refine tpi (x' := nI (3 * mv + k)) (nI_add _ _) ?_
  refine m_laldN (k := 3 * mv + k) hx hb hK hM hhp (rfl) (by omega) (by decide) dX9_heap_12 ?_
  refine tpl (x' := lN (hv k)) (hfh k hk) ?_
  exact hret _ _ _ dX9_heap_13 (rfl)
set_option maxHeartbeats 1000000 in
set_option maxRecDepth 100000 in
theorem k_X9_canMove (l : Launch) (D : va_G) (cA : Nat → ClassId) (M : mp) (m0 fb ra wn ov th it td hp bd fl : Nat) (v : Nat → Value) (fh fb2 : Nat → Int64) (ff : Nat → Int32) (g t mv : Nat) (mi : Bool) (hv : Nat → Nat) (bv : Nat)  (hA : rfA cA M m0 fb ra wn ov th it td hp bd fl v fh fb2 ff) (hv8 : v 8 = .int (nI g)) (hv9 : v 9 = .int (bI mi)) (hv10 : v 10 = .int (nI t)) (hv11 : v 11 = .int (nI mv)) (hfh : ∀ k, k < 3 → fh (3 * mv + k) = lN (hv k)) (hmv : mv ≤ 200) (hfb : fb2 mv = lN bv) (hok : okB g t mi hv) (hbv : bv ≤ 1000000000000)  : PC l D cA yX9_canMove wsX9_canMove 1 21 [.ref m0] M (some (.int (bI (!ovF g hv bv)))) := by
  refine PC.zz (cc := cX9_canMove) (maxL := 1) (by decide) rfl (Nat.le_of_ble_eq_true rfl) ?_
  intro p e s m args below meth c H Q ls B hM hl hret
  obtain ⟨hx, hb, hown, hts, hml, hK, hin⟩ := B
  have hown : s.vm.findClass RX9 = some m.cls := hown
  have hl : lv_has ls 1 [(0, .ref m0)] := hl
  have in_X9 : ∀ w ∈ wsX90, w ∈ wsX9_canMove := by decide +kernel
  have fl_32 := hts (.fieldLink RX9 32 "GoldHeapsModel" "game" "I") (by decide +kernel)
  have fl_39 := hts (.fieldLink RX9 39 "GoldHeapsModel" "bounds" "[J") (by decide +kernel)
  have fl_144 := hts (.fieldLink RX9 144 "GoldHeapsModel" "moves" "I") (by decide +kernel)
  obtain ⟨hR, ⟨hv0, hv1, hv3, hv4, hv5, hv6, hv7, hv12, hv13, hv14⟩, ⟨f, hfb0, hfib⟩, ⟨f0, hrw⟩, hRT, ⟨fd, htd⟩, hhp, hbd, hfl⟩ := id hA
  have hg3 := hok.1
  have hhv := hok.2.1
  have hb0_ := hhv 0
  have hb1_ := hhv 1
  have hb2_ := hhv 2
  refine lv_aload_n hx hb dX9_canMove_0 rfl (lv_at hl 0 rfl) ?_
  refine m_get (ci := 9) (C := RX9) (T := TX9) (N := 18) (v := v 8) hx hb hts in_X9 hown hK hM hR rfl 8 (by decide) fl_32 (fun _ h => h) rfl dX9_canMove_1 ?_
  refine tpv (hv8) ?_
  refine bz_ne (tgt := 33) hx hb dX9_canMove_4 (by decide) (fun c_4 n_4 => ?_) (fun c_4 n_4 => ?_)
  · skip
    have q0 : ¬ g = 0 := fun z => c_4 (by rw [z]; rfl)
    refine lv_aload_n hx hb dX9_canMove_33 rfl (lv_at hl 0 rfl) ?_
    refine m_get (ci := 9) (C := RX9) (T := TX9) (N := 18) (v := v 8) hx hb hts in_X9 hown hK hM hR rfl 8 (by decide) fl_32 (fun _ h => h) rfl dX9_canMove_34 ?_
    refine tpv (hv8) ?_
    refine lv_iconst (v := 2) hx hb dX9_canMove_37 (by decide) ?_
    refine bi_ne (tgt := 73) hx hb dX9_canMove_38 (by decide) (fun c_38 n_38 => ?_) (fun c_38 n_38 => ?_)
    · skip
      have q2 : ¬ g = 2 := fun z => c_38 (by rw [z]; rfl)
      refine lv_aload_n hx hb dX9_canMove_73 rfl (lv_at hl 0 rfl) ?_
      refine lv_iconst (v := 0) hx hb dX9_canMove_74 (by decide) ?_
      refine tpi (x' := nI 0) (rfl) ?_
      refine cpV (As := [.int (nI 0)]) (rest := []) (k_X9_heap l D cA _ m0 hp v fh mv (0) hv hR hv11 hv12 hhp hfh hmv (by decide)) ⟨hx, hb, hml, hown, hts⟩ (cwV 1 hts gX9_canMove_X9_heap rfl rfl rfl (by decide +kernel) ⟨by decide, by decide⟩) hK hM hR rfl rfl hl.1 rfl (Nat.le_of_ble_eq_true rfl) dX9_canMove_75 ⟨by decide, by decide⟩ ?_
      refine lv_aload_n hx hb dX9_canMove_78 rfl (lv_at hl 0 rfl) ?_
      refine lv_iconst (v := 1) hx hb dX9_canMove_79 (by decide) ?_
      refine tpi (x' := nI 1) (rfl) ?_
      refine cpV (As := [.int (nI 1)]) (rest := [.long (lN (hv 0))]) (k_X9_heap l D cA _ m0 hp v fh mv (1) hv hR hv11 hv12 hhp hfh hmv (by decide)) ⟨hx, hb, hml, hown, hts⟩ (cwV 1 hts gX9_canMove_X9_heap rfl rfl rfl (by decide +kernel) ⟨by decide, by decide⟩) hK hM hR rfl rfl hl.1 rfl (Nat.le_of_ble_eq_true rfl) dX9_canMove_80 ⟨by decide, by decide⟩ ?_
      refine lv_ladd hx hb dX9_canMove_83 ?_
      refine tpl (x' := lN (hv 0 + hv 1)) (lN_add _ _) ?_
      refine lv_aload_n hx hb dX9_canMove_84 rfl (lv_at hl 0 rfl) ?_
      refine lv_iconst (v := 2) hx hb dX9_canMove_85 (by decide) ?_
      refine tpi (x' := nI 2) (rfl) ?_
      refine cpV (As := [.int (nI 2)]) (rest := [.long (lN (hv 0 + hv 1))]) (k_X9_heap l D cA _ m0 hp v fh mv (2) hv hR hv11 hv12 hhp hfh hmv (by decide)) ⟨hx, hb, hml, hown, hts⟩ (cwV 1 hts gX9_canMove_X9_heap rfl rfl rfl (by decide +kernel) ⟨by decide, by decide⟩) hK hM hR rfl rfl hl.1 rfl (Nat.le_of_ble_eq_true rfl) dX9_canMove_86 ⟨by decide, by decide⟩ ?_
      refine lv_ladd hx hb dX9_canMove_89 ?_
      refine tpl (x' := lN (hv 0 + hv 1 + hv 2)) (lN_add _ _) ?_
      refine lv_lconst (v := 0) hx hb dX9_canMove_90 (by decide) ?_
      refine bl_le (tgt := 99) hx hb dX9_canMove_91 dX9_canMove_92 (by decide) (fun c_92 n_92 => ?_) (fun c_92 n_92 => ?_)
      · skip
        have z92 : hv 0 + hv 1 + hv 2 = 0 := by have := (ln_le (a := hv 0 + hv 1 + hv 2) (b := 0) (by omega) (by decide)).mp (by rw [← l_0]; exact c_92); omega
        refine lv_iconst (v := 0) hx hb dX9_canMove_99 (by decide) ?_
        exact hret _ _ _ dX9_canMove_100 (by rw [ov_13 q0 q2 (hg3 := hg3)]; rw [decide_eq_true (show hv 0 + hv 1 + hv 2 = 0 from z92)]; rfl)
      · skip
        have z92 : ¬ hv 0 + hv 1 + hv 2 = 0 := by have := (ln_lt (a := 0) (b := hv 0 + hv 1 + hv 2) (by decide) (by omega)).mp (by rw [← l_0]; exact c_92); omega
        refine lv_iconst (v := 1) hx hb dX9_canMove_95 (by decide) ?_
        refine lv_goto (tgt := 100) hx hb dX9_canMove_96 (by decide) ?_
        exact hret _ _ _ dX9_canMove_100 (by rw [ov_13 q0 q2 (hg3 := hg3)]; rw [decide_eq_false (show ¬ hv 0 + hv 1 + hv 2 = 0 from z92)]; rfl)
    · skip
      have q2 : g = 2 := (nI_eq (b := 2) (by omega) (by decide)).mp c_38
      refine lv_aload_n hx hb dX9_canMove_41 rfl (lv_at hl 0 rfl) ?_
      refine lv_iconst (v := 0) hx hb dX9_canMove_42 (by decide) ?_
      refine tpi (x' := nI 0) (rfl) ?_
      refine cpV (As := [.int (nI 0)]) (rest := []) (k_X9_heap l D cA _ m0 hp v fh mv (0) hv hR hv11 hv12 hhp hfh hmv (by decide)) ⟨hx, hb, hml, hown, hts⟩ (cwV 1 hts gX9_canMove_X9_heap rfl rfl rfl (by decide +kernel) ⟨by decide, by decide⟩) hK hM hR rfl rfl hl.1 rfl (Nat.le_of_ble_eq_true rfl) dX9_canMove_43 ⟨by decide, by decide⟩ ?_
      refine lv_lconst (v := 0) hx hb dX9_canMove_46 (by decide) ?_
      refine bl_le (tgt := 69) hx hb dX9_canMove_47 dX9_canMove_48 (by decide) (fun c_48 n_48 => ?_) (fun c_48 n_48 => ?_)
      · skip
        have z48 : hv 0 = 0 := by have := (ln_le (a := hv 0) (b := 0) (by omega) (by decide)).mp (by rw [← l_0]; exact c_48); omega
        refine lv_iconst (v := 0) hx hb dX9_canMove_69 (by decide) ?_
        refine lv_goto (tgt := 100) hx hb dX9_canMove_70 (by decide) ?_
        exact hret _ _ _ dX9_canMove_100 (by simp [ovF, q0, q2, z48]; rfl)
      · skip
        have z48 : ¬ hv 0 = 0 := by have := (ln_lt (a := 0) (b := hv 0) (by decide) (by omega)).mp (by rw [← l_0]; exact c_48); omega
        refine lv_aload_n hx hb dX9_canMove_51 rfl (lv_at hl 0 rfl) ?_
        refine m_get (ci := 9) (C := RX9) (T := TX9) (N := 18) (v := v 13) hx hb hts in_X9 hown hK hM hR rfl 13 (by decide) fl_39 (fun _ h => h) rfl dX9_canMove_52 ?_
        refine tpv (hv13) ?_
        refine lv_aload_n hx hb dX9_canMove_55 rfl (lv_at hl 0 rfl) ?_
        refine m_get (ci := 9) (C := RX9) (T := TX9) (N := 18) (v := v 11) hx hb hts in_X9 hown hK hM hR rfl 11 (by decide) fl_144 (fun _ h => h) rfl dX9_canMove_56 ?_
        refine tpv (hv11) ?_
        refine m_laldN (k := mv) hx hb hK hM hbd (rfl) (by omega) (by decide) dX9_canMove_59 ?_
        refine tpl (x' := lN bv) (hfb) ?_
        refine lv_lconst (v := 0) hx hb dX9_canMove_60 (by decide) ?_
        refine bl_le (tgt := 69) hx hb dX9_canMove_61 dX9_canMove_62 (by decide) (fun c_62 n_62 => ?_) (fun c_62 n_62 => ?_)
        · skip
          have z62 : bv = 0 := by have := (ln_le (a := bv) (b := 0) (by omega) (by decide)).mp (by rw [← l_0]; exact c_62); omega
          refine lv_iconst (v := 0) hx hb dX9_canMove_69 (by decide) ?_
          refine lv_goto (tgt := 100) hx hb dX9_canMove_70 (by decide) ?_
          exact hret _ _ _ dX9_canMove_100 (by simp [ovF, q0, q2, z48, z62]; rfl)
        · skip
          have z62 : ¬ bv = 0 := by have := (ln_lt (a := 0) (b := bv) (by decide) (by omega)).mp (by rw [← l_0]; exact c_62); omega
          refine lv_iconst (v := 1) hx hb dX9_canMove_65 (by decide) ?_
          refine lv_goto (tgt := 100) hx hb dX9_canMove_66 (by decide) ?_
          exact hret _ _ _ dX9_canMove_100 (by simp [ovF, q0, q2, z48, z62]; rfl)
  · skip
    have q0 : g = 0 := (nI_eq (b := 0) (by omega) (by decide)).mp c_4
    refine lv_aload_n hx hb dX9_canMove_7 rfl (lv_at hl 0 rfl) ?_
    refine lv_iconst (v := 0) hx hb dX9_canMove_8 (by decide) ?_
    refine tpi (x' := nI 0) (rfl) ?_
    refine cpV (As := [.int (nI 0)]) (rest := []) (k_X9_heap l D cA _ m0 hp v fh mv (0) hv hR hv11 hv12 hhp hfh hmv (by decide)) ⟨hx, hb, hml, hown, hts⟩ (cwV 1 hts gX9_canMove_X9_heap rfl rfl rfl (by decide +kernel) ⟨by decide, by decide⟩) hK hM hR rfl rfl hl.1 rfl (Nat.le_of_ble_eq_true rfl) dX9_canMove_9 ⟨by decide, by decide⟩ ?_
    refine lv_lconst (v := 0) hx hb dX9_canMove_12 (by decide) ?_
    refine bl_le (tgt := 31) hx hb dX9_canMove_13 dX9_canMove_14 (by decide) (fun c_14 n_14 => ?_) (fun c_14 n_14 => ?_)
    · skip
      have z14 : hv 0 = 0 := by have := (ln_le (a := hv 0) (b := 0) (by omega) (by decide)).mp (by rw [← l_0]; exact c_14); omega
      refine lv_iconst (v := 0) hx hb dX9_canMove_31 (by decide) ?_
      exact hret _ _ _ dX9_canMove_32 (by simp [ovF, q0, z14]; rfl)
    · skip
      have z14 : ¬ hv 0 = 0 := by have := (ln_lt (a := 0) (b := hv 0) (by decide) (by omega)).mp (by rw [← l_0]; exact c_14); omega
      refine lv_aload_n hx hb dX9_canMove_17 rfl (lv_at hl 0 rfl) ?_
      refine lv_iconst (v := 1) hx hb dX9_canMove_18 (by decide) ?_
      refine tpi (x' := nI 1) (rfl) ?_
      refine cpV (As := [.int (nI 1)]) (rest := []) (k_X9_heap l D cA _ m0 hp v fh mv (1) hv hR hv11 hv12 hhp hfh hmv (by decide)) ⟨hx, hb, hml, hown, hts⟩ (cwV 1 hts gX9_canMove_X9_heap rfl rfl rfl (by decide +kernel) ⟨by decide, by decide⟩) hK hM hR rfl rfl hl.1 rfl (Nat.le_of_ble_eq_true rfl) dX9_canMove_19 ⟨by decide, by decide⟩ ?_
      refine lv_lconst (v := 0) hx hb dX9_canMove_22 (by decide) ?_
      refine bl_le (tgt := 31) hx hb dX9_canMove_23 dX9_canMove_24 (by decide) (fun c_24 n_24 => ?_) (fun c_24 n_24 => ?_)
      · skip
        have z24 : hv 1 = 0 := by have := (ln_le (a := hv 1) (b := 0) (by omega) (by decide)).mp (by rw [← l_0]; exact c_24); omega
        refine lv_iconst (v := 0) hx hb dX9_canMove_31 (by decide) ?_
        exact hret _ _ _ dX9_canMove_32 (by simp [ovF, q0, z14, z24]; rfl)
      · skip
        have z24 : ¬ hv 1 = 0 := by have := (ln_lt (a := 0) (b := hv 1) (by decide) (by omega)).mp (by rw [← l_0]; exact c_24); omega
        refine lv_iconst (v := 1) hx hb dX9_canMove_27 (by decide) ?_
        refine lv_goto (tgt := 32) hx hb dX9_canMove_28 (by decide) ?_
        exact hret _ _ _ dX9_canMove_32 (by simp [ovF, q0, z14, z24]; rfl)
set_option maxHeartbeats 1000000 in
set_option maxRecDepth 100000 in
theorem k_X9_mayMove (l : Launch) (D : va_G) (cA : Nat → ClassId) (M : mp) (m0 fb ra wn ov th it td hp bd fl : Nat) (v : Nat → Value) (fh fb2 : Nat → Int64) (ff : Nat → Int32) (g t mv : Nat) (mi : Bool) (hv : Nat → Nat) (bv : Nat) (w : Nat) (x : Int64)  (hA : rfA cA M m0 fb ra wn ov th it td hp bd fl v fh fb2 ff) (hv8 : v 8 = .int (nI g)) (hv9 : v 9 = .int (bI mi)) (hv10 : v 10 = .int (nI t)) (hv11 : v 11 = .int (nI mv)) (hfh : ∀ k, k < 3 → fh (3 * mv + k) = lN (hv k)) (hmv : mv ≤ 200) (hfb : fb2 mv = lN bv) (hok : okB g t mi hv) (hbv : bv ≤ 1000000000000) (hw3 : w < wyF g)  : PC l D cA yX9_mayMove wsX9_mayMove 2 41 [.ref m0, .int (nI w), .long x] M (some (.int (bI (mtF g mv hv bv w x)))) := by
  refine PC.zz (cc := cX9_mayMove) (maxL := 5) (by decide) rfl (Nat.le_of_ble_eq_true rfl) ?_
  intro p e s m args below meth c H Q ls B hM hl hret
  obtain ⟨hx, hb, hown, hts, hml, hK, hin⟩ := B
  have hown : s.vm.findClass RX9 = some m.cls := hown
  have hl : lv_has ls 5 [(0, .ref m0), (1, .int (nI w)), (2, .long x)] := hl
  have in_X9 : ∀ w ∈ wsX90, w ∈ wsX9_mayMove := by decide +kernel
  have fl_144 := hts (.fieldLink RX9 144 "GoldHeapsModel" "moves" "I") (by decide +kernel)
  have fl_32 := hts (.fieldLink RX9 32 "GoldHeapsModel" "game" "I") (by decide +kernel)
  have fl_39 := hts (.fieldLink RX9 39 "GoldHeapsModel" "bounds" "[J") (by decide +kernel)
  obtain ⟨hR, ⟨hv0, hv1, hv3, hv4, hv5, hv6, hv7, hv12, hv13, hv14⟩, ⟨f, hfb0, hfib⟩, ⟨f0, hrw⟩, hRT, ⟨fd, htd⟩, hhp, hbd, hfl⟩ := id hA
  have hg3 := hok.1
  have hhv := hok.2.1
  have hb0_ := hhv 0
  have hb1_ := hhv 1
  have hb2_ := hhv 2
  have hwl : w ≤ 3 := by unfold wyF at hw3; split at hw3 <;> (try split at hw3) <;> (try split at hw3) <;> omega
  have hbw := hhv w
  have hbw1 := hhv (1 - w)
  refine lv_aload_n hx hb dX9_mayMove_0 rfl (lv_at hl 0 rfl) ?_
  refine cpV (As := []) (rest := []) (k_X9_canMove l D cA _ m0 fb ra wn ov th it td hp bd fl v fh fb2 ff g t mv mi hv bv hA hv8 hv9 hv10 hv11 hfh hmv hfb hok hbv) ⟨hx, hb, hml, hown, hts⟩ (cwV 0 hts gX9_mayMove_X9_canMove rfl rfl rfl (by decide +kernel) ⟨by decide, by decide⟩) hK hM hR rfl rfl hl.1 rfl (Nat.le_of_ble_eq_true rfl) dX9_mayMove_1 ⟨by decide, by decide⟩ ?_
  refine bz_eq (tgt := 23) hx hb dX9_mayMove_4 (by decide) (fun c_4 n_4 => ?_) (fun c_4 n_4 => ?_)
  · skip
    have hcm : ovF g hv bv = true := by have := bI_n0 c_4; exact this
    refine lv_iconst (v := 0) hx hb dX9_mayMove_23 (by decide) ?_
    exact hret _ _ _ dX9_mayMove_24 (by rw [mt_ov hg3 hw3 hcm]; rfl)
  · skip
    have hcm : ovF g hv bv = false := bI_nn0 c_4
    refine lv_aload_n hx hb dX9_mayMove_7 rfl (lv_at hl 0 rfl) ?_
    refine m_get (ci := 9) (C := RX9) (T := TX9) (N := 18) (v := v 11) hx hb hts in_X9 hown hK hM hR rfl 11 (by decide) fl_144 (fun _ h => h) rfl dX9_mayMove_8 ?_
    refine tpv (hv11) ?_
    refine lv_sipush (v := 200) hx hb dX9_mayMove_11 (by decide) ?_
    refine bi_eq (tgt := 23) hx hb dX9_mayMove_14 (by decide) (fun c_14 n_14 => ?_) (fun c_14 n_14 => ?_)
    · skip
      refine lv_iconst (v := 0) hx hb dX9_mayMove_23 (by decide) ?_
      exact hret _ _ _ dX9_mayMove_24 (by rw [mtF_f hg3 hw3 (fun z => by unfold mtQ at z; have := (nI_eq (b := 200) (by omega) (by decide)).mp c_14; omega)]; rfl)
    · skip
      refine lv_lload_n hx hb dX9_mayMove_17 rfl (lv_at hl 2 rfl) ?_
      refine lv_lconst (v := 1) hx hb dX9_mayMove_18 (by decide) ?_
      refine bl_ge (tgt := 25) hx hb dX9_mayMove_19 dX9_mayMove_20 (by decide) (fun c_20 n_20 => ?_) (fun c_20 n_20 => ?_)
      · skip
        obtain ⟨ex, x1, x2⟩ := ge1_nL c_20
        have hm2 : mv < 200 := by have : ¬ mv = 200 := fun z => c_14 (by rw [z]; rfl); omega
        refine lv_aload_n hx hb dX9_mayMove_25 rfl (lv_at hl 0 rfl) ?_
        refine m_get (ci := 9) (C := RX9) (T := TX9) (N := 18) (v := v 8) hx hb hts in_X9 hown hK hM hR rfl 8 (by decide) fl_32 (fun _ h => h) rfl dX9_mayMove_26 ?_
        refine tpv (hv8) ?_
        refine bz_ne (tgt := 78) hx hb dX9_mayMove_29 (by decide) (fun c_29 n_29 => ?_) (fun c_29 n_29 => ?_)
        · skip
          have q0 : ¬ g = 0 := fun z => c_29 (by rw [z]; rfl)
          refine lv_aload_n hx hb dX9_mayMove_78 rfl (lv_at hl 0 rfl) ?_
          refine m_get (ci := 9) (C := RX9) (T := TX9) (N := 18) (v := v 8) hx hb hts in_X9 hown hK hM hR rfl 8 (by decide) fl_32 (fun _ h => h) rfl dX9_mayMove_79 ?_
          refine tpv (hv8) ?_
          refine lv_iconst (v := 2) hx hb dX9_mayMove_82 (by decide) ?_
          refine bi_ne (tgt := 116) hx hb dX9_mayMove_83 (by decide) (fun c_83 n_83 => ?_) (fun c_83 n_83 => ?_)
          · skip
            have q2 : ¬ g = 2 := fun z => c_83 (by rw [z]; rfl)
            refine lv_aload_n hx hb dX9_mayMove_116 rfl (lv_at hl 0 rfl) ?_
            refine m_get (ci := 9) (C := RX9) (T := TX9) (N := 18) (v := v 8) hx hb hts in_X9 hown hK hM hR rfl 8 (by decide) fl_32 (fun _ h => h) rfl dX9_mayMove_117 ?_
            refine tpv (hv8) ?_
            refine lv_iconst (v := 1) hx hb dX9_mayMove_120 (by decide) ?_
            refine bi_ne (tgt := 128) hx hb dX9_mayMove_121 (by decide) (fun c_121 n_121 => ?_) (fun c_121 n_121 => ?_)
            · skip
              have q1 : ¬ g = 1 := fun z => c_121 (by rw [z]; rfl)
              refine lv_iconst (v := 3) hx hb dX9_mayMove_128 (by decide) ?_
              refine tpi (x' := nI 3) (rfl) ?_
              refine lv_istore (lv' := [(4, .int (nI 3)), (0, .ref m0), (1, .int (nI w)), (2, .long x)]) hx hb dX9_mayMove_129 hl (by decide) rfl (fun ls hl => ?_)
              refine lv_iload_n hx hb dX9_mayMove_131 rfl (lv_at hl 2 rfl) ?_
              refine lv_iload hx hb dX9_mayMove_132 (lv_at hl 0 rfl) ?_
              refine bi_ge (tgt := 153) hx hb dX9_mayMove_134 (by decide) (fun c_134 n_134 => ?_) (fun c_134 n_134 => ?_)
              · skip
                have l5 : 3 ≤ w := (nI_leI (by decide) (by omega)).mp c_134
                refine lv_lload_n hx hb dX9_mayMove_153 rfl (lv_at hl 3 rfl) ?_
                refine lv_aload_n hx hb dX9_mayMove_154 rfl (lv_at hl 1 rfl) ?_
                refine lv_iconst (v := 0) hx hb dX9_mayMove_155 (by decide) ?_
                refine tpi (x' := nI 0) (rfl) ?_
                refine cpV (As := [.int (nI 0)]) (rest := [.long x]) (k_X9_heap l D cA _ m0 hp v fh mv (0) hv hR hv11 hv12 hhp hfh hmv (by decide)) ⟨hx, hb, hml, hown, hts⟩ (cwV 1 hts gX9_mayMove_X9_heap rfl rfl rfl (by decide +kernel) ⟨by decide, by decide⟩) hK hM hR rfl rfl hl.1 rfl (Nat.le_of_ble_eq_true rfl) dX9_mayMove_156 ⟨by decide, by decide⟩ ?_
                refine bl_gt (tgt := 195) hx hb dX9_mayMove_159 dX9_mayMove_160 (by decide) (fun c_160 n_160 => ?_) (fun c_160 n_160 => ?_)
                · skip
                  have l7 : ¬ nL x ≤ hv 0 := fun z => n_160 ((leL ex rfl (by omega) (by omega)).mpr z)
                  refine lv_iconst (v := 0) hx hb dX9_mayMove_195 (by decide) ?_
                  exact hret _ _ _ dX9_mayMove_196 (by rw [mtF_f hg3 hw3 (fun z => by unfold mtQ at z; first | omega | (have := z.2.1 q0; omega))]; rfl)
                · skip
                  have l7 : nL x ≤ hv 0 := (leL ex rfl (by omega) (by omega)).mp c_160
                  refine lv_lload_n hx hb dX9_mayMove_163 rfl (lv_at hl 3 rfl) ?_
                  refine lv_aload_n hx hb dX9_mayMove_164 rfl (lv_at hl 1 rfl) ?_
                  refine lv_iconst (v := 1) hx hb dX9_mayMove_165 (by decide) ?_
                  refine tpi (x' := nI 1) (rfl) ?_
                  refine cpV (As := [.int (nI 1)]) (rest := [.long x]) (k_X9_heap l D cA _ m0 hp v fh mv (1) hv hR hv11 hv12 hhp hfh hmv (by decide)) ⟨hx, hb, hml, hown, hts⟩ (cwV 1 hts gX9_mayMove_X9_heap rfl rfl rfl (by decide +kernel) ⟨by decide, by decide⟩) hK hM hR rfl rfl hl.1 rfl (Nat.le_of_ble_eq_true rfl) dX9_mayMove_166 ⟨by decide, by decide⟩ ?_
                  refine bl_gt (tgt := 195) hx hb dX9_mayMove_169 dX9_mayMove_170 (by decide) (fun c_170 n_170 => ?_) (fun c_170 n_170 => ?_)
                  · skip
                    have l8 : ¬ nL x ≤ hv 1 := fun z => n_170 ((leL ex rfl (by omega) (by omega)).mpr z)
                    refine lv_iconst (v := 0) hx hb dX9_mayMove_195 (by decide) ?_
                    exact hret _ _ _ dX9_mayMove_196 (by rw [mtF_f hg3 hw3 (fun z => by unfold mtQ at z; first | omega | (have := z.2.1 q0; omega))]; rfl)
                  · skip
                    have l8 : nL x ≤ hv 1 := (leL ex rfl (by omega) (by omega)).mp c_170
                    refine lv_aload_n hx hb dX9_mayMove_173 rfl (lv_at hl 1 rfl) ?_
                    refine m_get (ci := 9) (C := RX9) (T := TX9) (N := 18) (v := v 8) hx hb hts in_X9 hown hK hM hR rfl 8 (by decide) fl_32 (fun _ h => h) rfl dX9_mayMove_174 ?_
                    refine tpv (hv8) ?_
                    refine lv_iconst (v := 1) hx hb dX9_mayMove_177 (by decide) ?_
                    refine bi_eq (tgt := 191) hx hb dX9_mayMove_178 (by decide) (fun c_178 n_178 => ?_) (fun c_178 n_178 => ?_)
                    · skip
                      have q9 : g = 1 := (nI_eq (b := 1) (by omega) (by decide)).mp c_178
                      refine lv_iconst (v := 1) hx hb dX9_mayMove_191 (by decide) ?_
                      refine lv_goto (tgt := 196) hx hb dX9_mayMove_192 (by decide) ?_
                      exact hret _ _ _ dX9_mayMove_196 (by rw [mtF_t c_20 hg3 hw3 (by unfold mtQ; first | omega | exact ⟨hm2, fun _ => ⟨l2, ho, hrm⟩, fun z => by omega, fun z => by omega, fun z => by omega⟩)]; rfl)
                    · skip
                      have q9 : ¬ g = 1 := fun z => c_178 (by rw [z]; rfl)
                      refine lv_lload_n hx hb dX9_mayMove_181 rfl (lv_at hl 3 rfl) ?_
                      refine lv_aload_n hx hb dX9_mayMove_182 rfl (lv_at hl 1 rfl) ?_
                      refine lv_iconst (v := 2) hx hb dX9_mayMove_183 (by decide) ?_
                      refine tpi (x' := nI 2) (rfl) ?_
                      refine cpV (As := [.int (nI 2)]) (rest := [.long x]) (k_X9_heap l D cA _ m0 hp v fh mv (2) hv hR hv11 hv12 hhp hfh hmv (by decide)) ⟨hx, hb, hml, hown, hts⟩ (cwV 1 hts gX9_mayMove_X9_heap rfl rfl rfl (by decide +kernel) ⟨by decide, by decide⟩) hK hM hR rfl rfl hl.1 rfl (Nat.le_of_ble_eq_true rfl) dX9_mayMove_184 ⟨by decide, by decide⟩ ?_
                      refine bl_gt (tgt := 195) hx hb dX9_mayMove_187 dX9_mayMove_188 (by decide) (fun c_188 n_188 => ?_) (fun c_188 n_188 => ?_)
                      · skip
                        have l9 : ¬ nL x ≤ hv 2 := fun z => n_188 ((leL ex rfl (by omega) (by omega)).mpr z)
                        refine lv_iconst (v := 0) hx hb dX9_mayMove_195 (by decide) ?_
                        exact hret _ _ _ dX9_mayMove_196 (by rw [mtF_f hg3 hw3 (fun z => by unfold mtQ at z; first | omega | (have := z.2.1 q0; omega))]; rfl)
                      · skip
                        have l9 : nL x ≤ hv 2 := (leL ex rfl (by omega) (by omega)).mp c_188
                        refine lv_iconst (v := 1) hx hb dX9_mayMove_191 (by decide) ?_
                        refine lv_goto (tgt := 196) hx hb dX9_mayMove_192 (by decide) ?_
                        exact hret _ _ _ dX9_mayMove_196 (by rw [mtF_t c_20 hg3 hw3 (by unfold mtQ; first | omega | exact ⟨hm2, fun _ => ⟨l2, ho, hrm⟩, fun z => by omega, fun z => by omega, fun z => by omega⟩)]; rfl)
              · skip
                have l5 : w < 3 := (nI_ltI (by omega) (by decide)).mp c_134
                refine lv_lload_n hx hb dX9_mayMove_137 rfl (lv_at hl 3 rfl) ?_
                refine lv_aload_n hx hb dX9_mayMove_138 rfl (lv_at hl 1 rfl) ?_
                refine lv_iload_n hx hb dX9_mayMove_139 rfl (lv_at hl 2 rfl) ?_
                refine cpV (As := [.int (nI w)]) (rest := [.long x]) (k_X9_heap l D cA _ m0 hp v fh mv (w) hv hR hv11 hv12 hhp hfh hmv (by omega)) ⟨hx, hb, hml, hown, hts⟩ (cwV 1 hts gX9_mayMove_X9_heap rfl rfl rfl (by decide +kernel) ⟨by decide, by decide⟩) hK hM hR rfl rfl hl.1 rfl (Nat.le_of_ble_eq_true rfl) dX9_mayMove_140 ⟨by decide, by decide⟩ ?_
                refine bl_gt (tgt := 151) hx hb dX9_mayMove_143 dX9_mayMove_144 (by decide) (fun c_144 n_144 => ?_) (fun c_144 n_144 => ?_)
                · skip
                  have l6 : ¬ nL x ≤ hv w := fun z => n_144 ((leL ex rfl (by omega) (by omega)).mpr z)
                  refine lv_iconst (v := 0) hx hb dX9_mayMove_151 (by decide) ?_
                  exact hret _ _ _ dX9_mayMove_152 (by rw [mtF_f hg3 hw3 (fun z => by unfold mtQ at z; first | omega | (have := z.2.1 q0; omega))]; rfl)
                · skip
                  have l6 : nL x ≤ hv w := (leL ex rfl (by omega) (by omega)).mp c_144
                  refine lv_iconst (v := 1) hx hb dX9_mayMove_147 (by decide) ?_
                  refine lv_goto (tgt := 152) hx hb dX9_mayMove_148 (by decide) ?_
                  exact hret _ _ _ dX9_mayMove_152 (by rw [mtF_t c_20 hg3 hw3 (by unfold mtQ; first | omega | exact ⟨hm2, fun _ => ⟨l2, ho, hrm⟩, fun z => by omega, fun z => by omega, fun z => by omega⟩)]; rfl)
            · skip
              have q1 : g = 1 := (nI_eq (b := 1) (by omega) (by decide)).mp c_121
              refine lv_iconst (v := 2) hx hb dX9_mayMove_124 (by decide) ?_
              refine tpi (x' := nI 2) (rfl) ?_
              refine lv_goto (tgt := 129) hx hb dX9_mayMove_125 (by decide) ?_
              refine lv_istore (lv' := [(4, .int (nI 2)), (0, .ref m0), (1, .int (nI w)), (2, .long x)]) hx hb dX9_mayMove_129 hl (by decide) rfl (fun ls hl => ?_)
              refine lv_iload_n hx hb dX9_mayMove_131 rfl (lv_at hl 2 rfl) ?_
              refine lv_iload hx hb dX9_mayMove_132 (lv_at hl 0 rfl) ?_
              refine bi_ge (tgt := 153) hx hb dX9_mayMove_134 (by decide) (fun c_134 n_134 => ?_) (fun c_134 n_134 => ?_)
              · skip
                have l5 : 2 ≤ w := (nI_leI (by decide) (by omega)).mp c_134
                refine lv_lload_n hx hb dX9_mayMove_153 rfl (lv_at hl 3 rfl) ?_
                refine lv_aload_n hx hb dX9_mayMove_154 rfl (lv_at hl 1 rfl) ?_
                refine lv_iconst (v := 0) hx hb dX9_mayMove_155 (by decide) ?_
                refine tpi (x' := nI 0) (rfl) ?_
                refine cpV (As := [.int (nI 0)]) (rest := [.long x]) (k_X9_heap l D cA _ m0 hp v fh mv (0) hv hR hv11 hv12 hhp hfh hmv (by decide)) ⟨hx, hb, hml, hown, hts⟩ (cwV 1 hts gX9_mayMove_X9_heap rfl rfl rfl (by decide +kernel) ⟨by decide, by decide⟩) hK hM hR rfl rfl hl.1 rfl (Nat.le_of_ble_eq_true rfl) dX9_mayMove_156 ⟨by decide, by decide⟩ ?_
                refine bl_gt (tgt := 195) hx hb dX9_mayMove_159 dX9_mayMove_160 (by decide) (fun c_160 n_160 => ?_) (fun c_160 n_160 => ?_)
                · skip
                  have l7 : ¬ nL x ≤ hv 0 := fun z => n_160 ((leL ex rfl (by omega) (by omega)).mpr z)
                  refine lv_iconst (v := 0) hx hb dX9_mayMove_195 (by decide) ?_
                  exact hret _ _ _ dX9_mayMove_196 (by rw [mtF_f hg3 hw3 (fun z => by unfold mtQ at z; first | omega | (have := z.2.1 q0; omega))]; rfl)
                · skip
                  have l7 : nL x ≤ hv 0 := (leL ex rfl (by omega) (by omega)).mp c_160
                  refine lv_lload_n hx hb dX9_mayMove_163 rfl (lv_at hl 3 rfl) ?_
                  refine lv_aload_n hx hb dX9_mayMove_164 rfl (lv_at hl 1 rfl) ?_
                  refine lv_iconst (v := 1) hx hb dX9_mayMove_165 (by decide) ?_
                  refine tpi (x' := nI 1) (rfl) ?_
                  refine cpV (As := [.int (nI 1)]) (rest := [.long x]) (k_X9_heap l D cA _ m0 hp v fh mv (1) hv hR hv11 hv12 hhp hfh hmv (by decide)) ⟨hx, hb, hml, hown, hts⟩ (cwV 1 hts gX9_mayMove_X9_heap rfl rfl rfl (by decide +kernel) ⟨by decide, by decide⟩) hK hM hR rfl rfl hl.1 rfl (Nat.le_of_ble_eq_true rfl) dX9_mayMove_166 ⟨by decide, by decide⟩ ?_
                  refine bl_gt (tgt := 195) hx hb dX9_mayMove_169 dX9_mayMove_170 (by decide) (fun c_170 n_170 => ?_) (fun c_170 n_170 => ?_)
                  · skip
                    have l8 : ¬ nL x ≤ hv 1 := fun z => n_170 ((leL ex rfl (by omega) (by omega)).mpr z)
                    refine lv_iconst (v := 0) hx hb dX9_mayMove_195 (by decide) ?_
                    exact hret _ _ _ dX9_mayMove_196 (by rw [mtF_f hg3 hw3 (fun z => by unfold mtQ at z; first | omega | (have := z.2.1 q0; omega))]; rfl)
                  · skip
                    have l8 : nL x ≤ hv 1 := (leL ex rfl (by omega) (by omega)).mp c_170
                    refine lv_aload_n hx hb dX9_mayMove_173 rfl (lv_at hl 1 rfl) ?_
                    refine m_get (ci := 9) (C := RX9) (T := TX9) (N := 18) (v := v 8) hx hb hts in_X9 hown hK hM hR rfl 8 (by decide) fl_32 (fun _ h => h) rfl dX9_mayMove_174 ?_
                    refine tpv (hv8) ?_
                    refine lv_iconst (v := 1) hx hb dX9_mayMove_177 (by decide) ?_
                    refine bi_eq (tgt := 191) hx hb dX9_mayMove_178 (by decide) (fun c_178 n_178 => ?_) (fun c_178 n_178 => ?_)
                    · skip
                      have q9 : g = 1 := (nI_eq (b := 1) (by omega) (by decide)).mp c_178
                      refine lv_iconst (v := 1) hx hb dX9_mayMove_191 (by decide) ?_
                      refine lv_goto (tgt := 196) hx hb dX9_mayMove_192 (by decide) ?_
                      exact hret _ _ _ dX9_mayMove_196 (by rw [mtF_t c_20 hg3 hw3 (by unfold mtQ; first | omega | exact ⟨hm2, fun _ => ⟨l2, ho, hrm⟩, fun z => by omega, fun z => by omega, fun z => by omega⟩)]; rfl)
                    · skip
                      have q9 : ¬ g = 1 := fun z => c_178 (by rw [z]; rfl)
                      refine lv_lload_n hx hb dX9_mayMove_181 rfl (lv_at hl 3 rfl) ?_
                      refine lv_aload_n hx hb dX9_mayMove_182 rfl (lv_at hl 1 rfl) ?_
                      refine lv_iconst (v := 2) hx hb dX9_mayMove_183 (by decide) ?_
                      refine tpi (x' := nI 2) (rfl) ?_
                      refine cpV (As := [.int (nI 2)]) (rest := [.long x]) (k_X9_heap l D cA _ m0 hp v fh mv (2) hv hR hv11 hv12 hhp hfh hmv (by decide)) ⟨hx, hb, hml, hown, hts⟩ (cwV 1 hts gX9_mayMove_X9_heap rfl rfl rfl (by decide +kernel) ⟨by decide, by decide⟩) hK hM hR rfl rfl hl.1 rfl (Nat.le_of_ble_eq_true rfl) dX9_mayMove_184 ⟨by decide, by decide⟩ ?_
                      refine bl_gt (tgt := 195) hx hb dX9_mayMove_187 dX9_mayMove_188 (by decide) (fun c_188 n_188 => ?_) (fun c_188 n_188 => ?_)
                      · skip
                        have l9 : ¬ nL x ≤ hv 2 := fun z => n_188 ((leL ex rfl (by omega) (by omega)).mpr z)
                        refine lv_iconst (v := 0) hx hb dX9_mayMove_195 (by decide) ?_
                        exact hret _ _ _ dX9_mayMove_196 (by rw [mtF_f hg3 hw3 (fun z => by unfold mtQ at z; first | omega | (have := z.2.1 q0; omega))]; rfl)
                      · skip
                        have l9 : nL x ≤ hv 2 := (leL ex rfl (by omega) (by omega)).mp c_188
                        refine lv_iconst (v := 1) hx hb dX9_mayMove_191 (by decide) ?_
                        refine lv_goto (tgt := 196) hx hb dX9_mayMove_192 (by decide) ?_
                        exact hret _ _ _ dX9_mayMove_196 (by rw [mtF_t c_20 hg3 hw3 (by unfold mtQ; first | omega | exact ⟨hm2, fun _ => ⟨l2, ho, hrm⟩, fun z => by omega, fun z => by omega, fun z => by omega⟩)]; rfl)
              · skip
                have l5 : w < 2 := (nI_ltI (by omega) (by decide)).mp c_134
                refine lv_lload_n hx hb dX9_mayMove_137 rfl (lv_at hl 3 rfl) ?_
                refine lv_aload_n hx hb dX9_mayMove_138 rfl (lv_at hl 1 rfl) ?_
                refine lv_iload_n hx hb dX9_mayMove_139 rfl (lv_at hl 2 rfl) ?_
                refine cpV (As := [.int (nI w)]) (rest := [.long x]) (k_X9_heap l D cA _ m0 hp v fh mv (w) hv hR hv11 hv12 hhp hfh hmv (by omega)) ⟨hx, hb, hml, hown, hts⟩ (cwV 1 hts gX9_mayMove_X9_heap rfl rfl rfl (by decide +kernel) ⟨by decide, by decide⟩) hK hM hR rfl rfl hl.1 rfl (Nat.le_of_ble_eq_true rfl) dX9_mayMove_140 ⟨by decide, by decide⟩ ?_
                refine bl_gt (tgt := 151) hx hb dX9_mayMove_143 dX9_mayMove_144 (by decide) (fun c_144 n_144 => ?_) (fun c_144 n_144 => ?_)
                · skip
                  have l6 : ¬ nL x ≤ hv w := fun z => n_144 ((leL ex rfl (by omega) (by omega)).mpr z)
                  refine lv_iconst (v := 0) hx hb dX9_mayMove_151 (by decide) ?_
                  exact hret _ _ _ dX9_mayMove_152 (by rw [mtF_f hg3 hw3 (fun z => by unfold mtQ at z; first | omega | (have := z.2.1 q0; omega))]; rfl)
                · skip
                  have l6 : nL x ≤ hv w := (leL ex rfl (by omega) (by omega)).mp c_144
                  refine lv_iconst (v := 1) hx hb dX9_mayMove_147 (by decide) ?_
                  refine lv_goto (tgt := 152) hx hb dX9_mayMove_148 (by decide) ?_
                  exact hret _ _ _ dX9_mayMove_152 (by rw [mtF_t c_20 hg3 hw3 (by unfold mtQ; first | omega | exact ⟨hm2, fun _ => ⟨l2, ho, hrm⟩, fun z => by omega, fun z => by omega, fun z => by omega⟩)]; rfl)
          · skip
            have q2 : g = 2 := (nI_eq (b := 2) (by omega) (by decide)).mp c_83
            refine lv_lload_n hx hb dX9_mayMove_86 rfl (lv_at hl 2 rfl) ?_
            refine lv_aload_n hx hb dX9_mayMove_87 rfl (lv_at hl 0 rfl) ?_
            refine lv_iconst (v := 0) hx hb dX9_mayMove_88 (by decide) ?_
            refine tpi (x' := nI 0) (rfl) ?_
            refine cpV (As := [.int (nI 0)]) (rest := [.long x]) (k_X9_heap l D cA _ m0 hp v fh mv (0) hv hR hv11 hv12 hhp hfh hmv (by decide)) ⟨hx, hb, hml, hown, hts⟩ (cwV 1 hts gX9_mayMove_X9_heap rfl rfl rfl (by decide +kernel) ⟨by decide, by decide⟩) hK hM hR rfl rfl hl.1 rfl (Nat.le_of_ble_eq_true rfl) dX9_mayMove_89 ⟨by decide, by decide⟩ ?_
            refine bl_gt (tgt := 114) hx hb dX9_mayMove_92 dX9_mayMove_93 (by decide) (fun c_93 n_93 => ?_) (fun c_93 n_93 => ?_)
            · skip
              have l3 : ¬ nL x ≤ hv 0 := fun z => n_93 ((leL ex rfl (by omega) (by omega)).mpr z)
              refine lv_iconst (v := 0) hx hb dX9_mayMove_114 (by decide) ?_
              exact hret _ _ _ dX9_mayMove_115 (by rw [mtF_f hg3 hw3 (fun z => by unfold mtQ at z; first | omega | (have := z.2.1 q0; omega))]; rfl)
            · skip
              have l3 : nL x ≤ hv 0 := (leL ex rfl (by omega) (by omega)).mp c_93
              refine lv_lload_n hx hb dX9_mayMove_96 rfl (lv_at hl 2 rfl) ?_
              refine lv_aload_n hx hb dX9_mayMove_97 rfl (lv_at hl 0 rfl) ?_
              refine m_get (ci := 9) (C := RX9) (T := TX9) (N := 18) (v := v 13) hx hb hts in_X9 hown hK hM hR rfl 13 (by decide) fl_39 (fun _ h => h) rfl dX9_mayMove_98 ?_
              refine tpv (hv13) ?_
              refine lv_aload_n hx hb dX9_mayMove_101 rfl (lv_at hl 0 rfl) ?_
              refine m_get (ci := 9) (C := RX9) (T := TX9) (N := 18) (v := v 11) hx hb hts in_X9 hown hK hM hR rfl 11 (by decide) fl_144 (fun _ h => h) rfl dX9_mayMove_102 ?_
              refine tpv (hv11) ?_
              refine m_laldN (k := mv) hx hb hK hM hbd (rfl) (by omega) (by decide) dX9_mayMove_105 ?_
              refine tpl (x' := lN bv) (hfb) ?_
              refine bl_gt (tgt := 114) hx hb dX9_mayMove_106 dX9_mayMove_107 (by decide) (fun c_107 n_107 => ?_) (fun c_107 n_107 => ?_)
              · skip
                have l4 : ¬ nL x ≤ bv := fun z => n_107 ((leL ex rfl (by omega) (by omega)).mpr z)
                refine lv_iconst (v := 0) hx hb dX9_mayMove_114 (by decide) ?_
                exact hret _ _ _ dX9_mayMove_115 (by rw [mtF_f hg3 hw3 (fun z => by unfold mtQ at z; first | omega | (have := z.2.1 q0; omega))]; rfl)
              · skip
                have l4 : nL x ≤ bv := (leL ex rfl (by omega) (by omega)).mp c_107
                refine lv_iconst (v := 1) hx hb dX9_mayMove_110 (by decide) ?_
                refine lv_goto (tgt := 115) hx hb dX9_mayMove_111 (by decide) ?_
                exact hret _ _ _ dX9_mayMove_115 (by rw [mtF_t c_20 hg3 hw3 (by unfold mtQ; first | omega | exact ⟨hm2, fun _ => ⟨l2, ho, hrm⟩, fun z => by omega, fun z => by omega, fun z => by omega⟩)]; rfl)
        · skip
          have q0 : g = 0 := (nI_eq (b := 0) (by omega) (by decide)).mp c_29
          have hw1 : w ≤ 1 := by rw [q0] at hw3; have : wyF 0 = 2 := rfl; omega
          have ho : 0 < hv (1 - w) := ov_0 q0 hw1 hcm
          refine lv_aload_n hx hb dX9_mayMove_32 rfl (lv_at hl 0 rfl) ?_
          refine lv_iload_n hx hb dX9_mayMove_33 rfl (lv_at hl 1 rfl) ?_
          refine cpV (As := [.int (nI w)]) (rest := []) (k_X9_heap l D cA _ m0 hp v fh mv (w) hv hR hv11 hv12 hhp hfh hmv (by omega)) ⟨hx, hb, hml, hown, hts⟩ (cwV 1 hts gX9_mayMove_X9_heap rfl rfl rfl (by decide +kernel) ⟨by decide, by decide⟩) hK hM hR rfl rfl hl.1 rfl (Nat.le_of_ble_eq_true rfl) dX9_mayMove_34 ⟨by decide, by decide⟩ ?_
          refine lv_aload_n hx hb dX9_mayMove_37 rfl (lv_at hl 0 rfl) ?_
          refine lv_iconst (v := 1) hx hb dX9_mayMove_38 (by decide) ?_
          refine tpi (x' := nI 1) (rfl) ?_
          refine lv_iload_n hx hb dX9_mayMove_39 rfl (lv_at hl 1 rfl) ?_
          refine lv_isub hx hb dX9_mayMove_40 ?_
          refine tpi (x' := nI (1 - w)) (nI_sub hw1) ?_
          refine cpV (As := [.int (nI (1 - w))]) (rest := [.long (lN (hv w))]) (k_X9_heap l D cA _ m0 hp v fh mv (1 - w) hv hR hv11 hv12 hhp hfh hmv (by omega)) ⟨hx, hb, hml, hown, hts⟩ (cwV 1 hts gX9_mayMove_X9_heap rfl rfl rfl (by decide +kernel) ⟨by decide, by decide⟩) hK hM hR rfl rfl hl.1 rfl (Nat.le_of_ble_eq_true rfl) dX9_mayMove_41 ⟨by decide, by decide⟩ ?_
          refine bl_lt (tgt := 76) hx hb dX9_mayMove_44 dX9_mayMove_45 (by decide) (fun c_45 n_45 => ?_) (fun c_45 n_45 => ?_)
          · skip
            have l45 : hv w < hv (1 - w) := (ln_lt (by omega) (by omega)).mp c_45
            refine lv_iconst (v := 0) hx hb dX9_mayMove_76 (by decide) ?_
            exact hret _ _ _ dX9_mayMove_77 (by rw [mtF_f hg3 hw3 (fun z => by unfold mtQ at z; have := z.2.1 q0; exact mt_lt x1 this.1 l45 this.2.2)]; rfl)
          · skip
            have l45 : hv (1 - w) ≤ hv w := (ln_le (by omega) (by omega)).mp c_45
            refine lv_lload_n hx hb dX9_mayMove_48 rfl (lv_at hl 2 rfl) ?_
            refine lv_aload_n hx hb dX9_mayMove_49 rfl (lv_at hl 0 rfl) ?_
            refine lv_iload_n hx hb dX9_mayMove_50 rfl (lv_at hl 1 rfl) ?_
            refine cpV (As := [.int (nI w)]) (rest := [.long x]) (k_X9_heap l D cA _ m0 hp v fh mv (w) hv hR hv11 hv12 hhp hfh hmv (by omega)) ⟨hx, hb, hml, hown, hts⟩ (cwV 1 hts gX9_mayMove_X9_heap rfl rfl rfl (by decide +kernel) ⟨by decide, by decide⟩) hK hM hR rfl rfl hl.1 rfl (Nat.le_of_ble_eq_true rfl) dX9_mayMove_51 ⟨by decide, by decide⟩ ?_
            refine bl_gt (tgt := 76) hx hb dX9_mayMove_54 dX9_mayMove_55 (by decide) (fun c_55 n_55 => ?_) (fun c_55 n_55 => ?_)
            · skip
              have l2 : ¬ nL x ≤ hv w := fun z => n_55 ((leL ex rfl (by omega) (by omega)).mpr z)
              refine lv_iconst (v := 0) hx hb dX9_mayMove_76 (by decide) ?_
              exact hret _ _ _ dX9_mayMove_77 (by rw [mtF_f hg3 hw3 (fun z => by unfold mtQ at z; first | omega | (have := z.2.1 q0; omega))]; rfl)
            · skip
              have l2 : nL x ≤ hv w := (leL ex rfl (by omega) (by omega)).mp c_55
              refine lv_lload_n hx hb dX9_mayMove_58 rfl (lv_at hl 2 rfl) ?_
              refine lv_aload_n hx hb dX9_mayMove_59 rfl (lv_at hl 0 rfl) ?_
              refine lv_iconst (v := 1) hx hb dX9_mayMove_60 (by decide) ?_
              refine tpi (x' := nI 1) (rfl) ?_
              refine lv_iload_n hx hb dX9_mayMove_61 rfl (lv_at hl 1 rfl) ?_
              refine lv_isub hx hb dX9_mayMove_62 ?_
              refine tpi (x' := nI (1 - w)) (nI_sub hw1) ?_
              refine cpV (As := [.int (nI (1 - w))]) (rest := [.long x]) (k_X9_heap l D cA _ m0 hp v fh mv (1 - w) hv hR hv11 hv12 hhp hfh hmv (by omega)) ⟨hx, hb, hml, hown, hts⟩ (cwV 1 hts gX9_mayMove_X9_heap rfl rfl rfl (by decide +kernel) ⟨by decide, by decide⟩) hK hM hR rfl rfl hl.1 rfl (Nat.le_of_ble_eq_true rfl) dX9_mayMove_63 ⟨by decide, by decide⟩ ?_
              refine lv_lrem hx hb dX9_mayMove_66 (fun z => by have := (ln_eq (by omega) (by decide)).mp (show lN (hv (1 - w)) = lN 0 by rw [z]; rfl); omega) ?_
              refine tpl (x' := lN (nL x % hv (1 - w))) (remL ex rfl (by omega) ho (by omega)) ?_
              refine lv_lconst (v := 0) hx hb dX9_mayMove_67 (by decide) ?_
              refine bl_ne (tgt := 76) hx hb dX9_mayMove_68 dX9_mayMove_69 (by decide) (fun c_69 n_69 => ?_) (fun c_69 n_69 => ?_)
              · skip
                have hrm : ¬ nL x % hv (1 - w) = 0 := fun z => c_69 (by rw [z]; rfl)
                refine lv_iconst (v := 0) hx hb dX9_mayMove_76 (by decide) ?_
                exact hret _ _ _ dX9_mayMove_77 (by rw [mtF_f hg3 hw3 (fun z => by unfold mtQ at z; first | omega | (have := z.2.1 q0; omega))]; rfl)
              · skip
                have hrm : nL x % hv (1 - w) = 0 := (ln_eq (by have := Nat.mod_lt (nL x) ho; omega) (by decide)).mp (by rw [← l_0]; exact c_69)
                refine lv_iconst (v := 1) hx hb dX9_mayMove_72 (by decide) ?_
                refine lv_goto (tgt := 77) hx hb dX9_mayMove_73 (by decide) ?_
                exact hret _ _ _ dX9_mayMove_77 (by rw [mtF_t c_20 hg3 hw3 (by unfold mtQ; first | omega | exact ⟨hm2, fun _ => ⟨l2, ho, hrm⟩, fun z => by omega, fun z => by omega, fun z => by omega⟩)]; rfl)
      · skip
        refine lv_iconst (v := 0) hx hb dX9_mayMove_23 (by decide) ?_
        exact hret _ _ _ dX9_mayMove_24 (by rw [mtF_x n_20]; rfl)
set_option maxHeartbeats 1000000 in
set_option maxRecDepth 100000 in
theorem k_X9_isWon (l : Launch) (D : va_G) (cA : Nat → ClassId) (M : mp) (m0 fb ra wn ov th it td hp bd fl : Nat) (v : Nat → Value) (fh fb2 : Nat → Int64) (ff : Nat → Int32) (g t mv : Nat) (mi : Bool) (hv : Nat → Nat) (bv : Nat)  (hA : rfA cA M m0 fb ra wn ov th it td hp bd fl v fh fb2 ff) (hv8 : v 8 = .int (nI g)) (hv9 : v 9 = .int (bI mi)) (hv10 : v 10 = .int (nI t)) (hv11 : v 11 = .int (nI mv)) (hfh : ∀ k, k < 3 → fh (3 * mv + k) = lN (hv k)) (hmv : mv ≤ 200) (hfb : fb2 mv = lN bv) (hok : okB g t mi hv) (hbv : bv ≤ 1000000000000)  : MC l D cA yX9_isWon wsX9_isWon 3 77 0 0 [.ref m0] M (fun r M' => r = some (.int (bI (wnF g mi t hv bv))) ∧ (∃ v', rfA cA M' m0 fb ra wn ov th it td hp bd fl v' fh fb2 ff ∧ agS v v') ∧ kpL M M' [m0, ra, wn, ov, th, it]) := by
  refine MC.of (cc := cX9_isWon) (maxL := 1) (ret := (some .boolean)) (by decide) rfl (Nat.le_of_ble_eq_true rfl) ?_
  intro p e s m args below meth c Q ls B hh hl hretv hreti hretz hretl hreta
  obtain ⟨hx, hb, hown, hts, hml, hK, hin⟩ := B
  have hM := hh.1
  have hM_0 := hh.1
  have hkp : kpL M M [m0, ra, wn, ov, th, it] := kpL.rf M _
  have hown : s.vm.findClass RX9 = some m.cls := hown
  have hl : lv_has ls 1 [(0, .ref m0)] := hl
  have in_X9 : ∀ w ∈ wsX90, w ∈ wsX9_isWon := by decide +kernel
  have fl_32 := hts (.fieldLink RX9 32 "GoldHeapsModel" "game" "I") (by decide +kernel)
  have fl_138 := hts (.fieldLink RX9 138 "GoldHeapsModel" "misere" "Z") (by decide +kernel)
  have fl_141 := hts (.fieldLink RX9 141 "GoldHeapsModel" "t" "I") (by decide +kernel)
  have fl_39 := hts (.fieldLink RX9 39 "GoldHeapsModel" "bounds" "[J") (by decide +kernel)
  have fl_144 := hts (.fieldLink RX9 144 "GoldHeapsModel" "moves" "I") (by decide +kernel)
  obtain ⟨hR, ⟨hv0, hv1, hv3, hv4, hv5, hv6, hv7, hv12, hv13, hv14⟩, ⟨f, hfb0, hfib⟩, ⟨f0, hrw⟩, hRT, ⟨fd, htd⟩, hhp, hbd, hfl⟩ := id hA
  have hg3 := hok.1
  have hhv := hok.2.1
  have hb0_ := hhv 0
  have hb1_ := hhv 1
  have hb2_ := hhv 2
  obtain ⟨⟨fw, fo, hwn, hov, hT2⟩, ⟨ft, fi, hth, hit, hT3⟩⟩ := id hRT
  refine lv_aload_n hx hb dX9_isWon_0 rfl (lv_at hl 0 rfl) ?_
  refine m_get (ci := 9) (C := RX9) (T := TX9) (N := 18) (v := v 8) hx hb hts in_X9 hown hK hM hR rfl 8 (by decide) fl_32 (fun _ h => h) rfl dX9_isWon_1 ?_
  refine tpv (hv8) ?_
  have hti : (nI g).toInt = (g : Int) := nI_toInt (by omega)
  rcases (show g = 0 ∨ g = 1 ∨ g = 2 ∨ g = 3 by omega) with hq | hq | hq | hq
  · refine lv_tableIn (tgt := 32) (off := 28) hx hb dX9_isWon_4 (by rw [hti]; omega) (by rw [hti]; omega) (by rw [hti, hq]; rfl) (by decide) ?_
    refine lv_aload_n hx hb dX9_isWon_32 rfl (lv_at hl 0 rfl) ?_
    refine m_get (ci := 9) (C := RX9) (T := TX9) (N := 18) (v := v 9) hx hb hts in_X9 hown hK hM hR rfl 9 (by decide) fl_138 (fun _ h => h) rfl dX9_isWon_33 ?_
    refine tpv (hv9) ?_
    refine bz_eq (tgt := 60) hx hb dX9_isWon_36 (by decide) (fun c_36 n_36 => ?_) (fun c_36 n_36 => ?_)
    · skip
      have qm := bI_eq0 c_36
      refine lv_aload_n hx hb dX9_isWon_60 rfl (lv_at hl 0 rfl) ?_
      refine lv_iconst (v := 0) hx hb dX9_isWon_61 (by decide) ?_
      refine tpi (x' := nI 0) (rfl) ?_
      refine cpV (As := [.int (nI 0)]) (rest := []) (k_X9_heap l D cA _ m0 hp v fh mv (0) hv hR hv11 hv12 hhp hfh hmv (by decide)) ⟨hx, hb, hml, hown, hts⟩ (cwV 1 hts gX9_isWon_X9_heap rfl rfl rfl (by decide +kernel) ⟨by decide, by decide⟩) hK hM hR rfl rfl hl.1 rfl (Nat.le_of_ble_eq_true rfl) dX9_isWon_62 ⟨by decide, by decide⟩ ?_
      refine lv_aload_n hx hb dX9_isWon_65 rfl (lv_at hl 0 rfl) ?_
      refine lv_iconst (v := 1) hx hb dX9_isWon_66 (by decide) ?_
      refine tpi (x' := nI 1) (rfl) ?_
      refine cpV (As := [.int (nI 1)]) (rest := [.long (lN (hv 0))]) (k_X9_heap l D cA _ m0 hp v fh mv (1) hv hR hv11 hv12 hhp hfh hmv (by decide)) ⟨hx, hb, hml, hown, hts⟩ (cwV 1 hts gX9_isWon_X9_heap rfl rfl rfl (by decide +kernel) ⟨by decide, by decide⟩) hK hM hR rfl rfl hl.1 rfl (Nat.le_of_ble_eq_true rfl) dX9_isWon_67 ⟨by decide, by decide⟩ ?_
      refine cpS (As := [.long (lN (hv 0)), .long (lN (hv 1))]) (rest := []) (k_X9_isShares l D cA _ (hv 0) (hv 1) hb0_ hb1_) ⟨hx, hb, hml, hown, hts⟩ (va_cwS 2 hts gX9_isWon_X9_isShares rfl rfl rfl (by decide +kernel) ⟨by decide, by decide⟩) hK hM rfl hl.1 rfl (Nat.le_of_ble_eq_true rfl) dX9_isWon_70 ⟨by decide, by decide⟩ ?_
      exact hretz _ _ _ _ _ _ _ _ (wnF g mi t hv bv) hh (by simp [wnF, hq, qm]) (⟨rfl, ⟨v, hA, agS.rf v⟩, hkp⟩) (by decide) (by decide) dX9_isWon_73 rfl
    · skip
      have qm := bI_ne0 c_36
      have h60 := hok.2.2.2.2.1 qm (by omega)
      refine lv_aload_n hx hb dX9_isWon_39 rfl (lv_at hl 0 rfl) ?_
      refine lv_iconst (v := 0) hx hb dX9_isWon_40 (by decide) ?_
      refine tpi (x' := nI 0) (rfl) ?_
      refine lv_iconst (v := 1) hx hb dX9_isWon_41 (by decide) ?_
      refine tpi (x' := bI true) (rfl) ?_
      refine lv_aload_n hx hb dX9_isWon_42 rfl (lv_at hl 0 rfl) ?_
      refine lv_iconst (v := 0) hx hb dX9_isWon_43 (by decide) ?_
      refine tpi (x' := nI 0) (rfl) ?_
      refine cpV (As := [.int (nI 0)]) (rest := [.int (bI true), .int (nI 0), .ref m0]) (k_X9_heap l D cA _ m0 hp v fh mv (0) hv hR hv11 hv12 hhp hfh hmv (by decide)) ⟨hx, hb, hml, hown, hts⟩ (cwV 1 hts gX9_isWon_X9_heap rfl rfl rfl (by decide +kernel) ⟨by decide, by decide⟩) hK hM hR rfl rfl hl.1 rfl (Nat.le_of_ble_eq_true rfl) dX9_isWon_44 ⟨by decide, by decide⟩ ?_
      refine lv_l2i hx hb dX9_isWon_47 rfl ?_
      refine tpi (x' := nI (hv 0)) (lN_i _) ?_
      refine lv_aload_n hx hb dX9_isWon_48 rfl (lv_at hl 0 rfl) ?_
      refine lv_iconst (v := 1) hx hb dX9_isWon_49 (by decide) ?_
      refine tpi (x' := nI 1) (rfl) ?_
      refine cpV (As := [.int (nI 1)]) (rest := [.int (nI (hv 0)), .int (bI true), .int (nI 0), .ref m0]) (k_X9_heap l D cA _ m0 hp v fh mv (1) hv hR hv11 hv12 hhp hfh hmv (by decide)) ⟨hx, hb, hml, hown, hts⟩ (cwV 1 hts gX9_isWon_X9_heap rfl rfl rfl (by decide +kernel) ⟨by decide, by decide⟩) hK hM hR rfl rfl hl.1 rfl (Nat.le_of_ble_eq_true rfl) dX9_isWon_50 ⟨by decide, by decide⟩ ?_
      refine lv_l2i hx hb dX9_isWon_53 rfl ?_
      refine tpi (x' := nI (hv 1)) (lN_i _) ?_
      refine cmV (As := [.int (nI 0), .int (bI true), .int (nI (hv 0)), .int (nI (hv 1))]) (rest := []) (k_X9_wonAt l D cA M m0 v wn ov fw fo 0 true (hv 0) (hv 1) hR hv3 hv4 hwn hov hT2 (by decide) h60.1 h60.2) ⟨hx, hb, hml, hown, hts⟩ (cwV 4 hts gX9_isWon_X9_wonAt rfl rfl rfl (by decide +kernel) ⟨by decide, by decide⟩) hK hh hR rfl rfl hl.1 rfl (Nat.le_of_ble_eq_true rfl) dX9_isWon_54 ⟨by decide, by decide⟩ (fun v9 M1 H1 locs1 hpost hh hz9 hk9 hn9 => ?_)
      obtain ⟨rfl, ⟨fw', fo', hwn1, hov1, hT21⟩, hkc⟩ := hpost
      have hRT1 : rtW cA M1 wn ov th it := ⟨⟨fw', fo', hwn1, hov1, hT21⟩, ⟨ft, fi, hkc _ _ hth (ni2 (mp_ne hth hwn (by simp)) (mp_ne hth hov (by simp))), hkc _ _ hit (ni2 (mp_ne hit hwn (by simp)) (mp_ne hit hov (by simp))), hT3⟩⟩
      have hA1 := hA.tab (hkc.wk (by simp)) hRT1
      have hkp := hkp.call hkc (by simp)
      have hM := hh.1
      refine W.eq (g2 := F0 m 57 ls [.int (bI (!lsB 0 true (hv 0) (hv 1)))]) rfl ?_
      refine lv_goto (tgt := 73) hx hb dX9_isWon_57 (by decide) ?_
      exact hretz _ _ _ _ _ _ _ _ (wnF g mi t hv bv) hh (by simp [wnF, hq, qm]) (⟨rfl, ⟨v, hA1, agS.rf v⟩, hkp⟩) (by decide) (by decide) dX9_isWon_73 rfl
  · refine lv_tableIn (tgt := 74) (off := 70) hx hb dX9_isWon_4 (by rw [hti]; omega) (by rw [hti]; omega) (by rw [hti, hq]; rfl) (by decide) ?_
    refine lv_aload_n hx hb dX9_isWon_74 rfl (lv_at hl 0 rfl) ?_
    refine m_get (ci := 9) (C := RX9) (T := TX9) (N := 18) (v := v 9) hx hb hts in_X9 hown hK hM hR rfl 9 (by decide) fl_138 (fun _ h => h) rfl dX9_isWon_75 ?_
    refine tpv (hv9) ?_
    refine bz_eq (tgt := 102) hx hb dX9_isWon_78 (by decide) (fun c_78 n_78 => ?_) (fun c_78 n_78 => ?_)
    · skip
      have qm := bI_eq0 c_78
      refine lv_aload_n hx hb dX9_isWon_102 rfl (lv_at hl 0 rfl) ?_
      refine lv_aload_n hx hb dX9_isWon_103 rfl (lv_at hl 0 rfl) ?_
      refine lv_iconst (v := 0) hx hb dX9_isWon_104 (by decide) ?_
      refine tpi (x' := nI 0) (rfl) ?_
      refine cpV (As := [.int (nI 0)]) (rest := [.ref m0]) (k_X9_heap l D cA _ m0 hp v fh mv (0) hv hR hv11 hv12 hhp hfh hmv (by decide)) ⟨hx, hb, hml, hown, hts⟩ (cwV 1 hts gX9_isWon_X9_heap rfl rfl rfl (by decide +kernel) ⟨by decide, by decide⟩) hK hM hR rfl rfl hl.1 rfl (Nat.le_of_ble_eq_true rfl) dX9_isWon_105 ⟨by decide, by decide⟩ ?_
      refine lv_aload_n hx hb dX9_isWon_108 rfl (lv_at hl 0 rfl) ?_
      refine lv_iconst (v := 1) hx hb dX9_isWon_109 (by decide) ?_
      refine tpi (x' := nI 1) (rfl) ?_
      refine cpV (As := [.int (nI 1)]) (rest := [.long (lN (hv 0)), .ref m0]) (k_X9_heap l D cA _ m0 hp v fh mv (1) hv hR hv11 hv12 hhp hfh hmv (by decide)) ⟨hx, hb, hml, hown, hts⟩ (cwV 1 hts gX9_isWon_X9_heap rfl rfl rfl (by decide +kernel) ⟨by decide, by decide⟩) hK hM hR rfl rfl hl.1 rfl (Nat.le_of_ble_eq_true rfl) dX9_isWon_110 ⟨by decide, by decide⟩ ?_
      refine cpV (As := [.long (lN (hv 0)), .long (lN (hv 1))]) (rest := []) (k_X9_isBoth l D cA _ m0 (hv 0) (hv 1) hA.fib hb0_ hb1_) ⟨hx, hb, hml, hown, hts⟩ (cwV 2 hts gX9_isWon_X9_isBoth rfl rfl rfl (by decide +kernel) ⟨by decide, by decide⟩) hK hM hR rfl rfl hl.1 rfl (Nat.le_of_ble_eq_true rfl) dX9_isWon_113 ⟨by decide, by decide⟩ ?_
      exact hretz _ _ _ _ _ _ _ _ (wnF g mi t hv bv) hh (by simp [wnF, hq, qm]) (⟨rfl, ⟨v, hA, agS.rf v⟩, hkp⟩) (by decide) (by decide) dX9_isWon_116 rfl
    · skip
      have qm := bI_ne0 c_78
      have h60 := hok.2.2.2.2.1 qm (by omega)
      refine lv_aload_n hx hb dX9_isWon_81 rfl (lv_at hl 0 rfl) ?_
      refine lv_iconst (v := 1) hx hb dX9_isWon_82 (by decide) ?_
      refine tpi (x' := nI 1) (rfl) ?_
      refine lv_iconst (v := 1) hx hb dX9_isWon_83 (by decide) ?_
      refine tpi (x' := bI true) (rfl) ?_
      refine lv_aload_n hx hb dX9_isWon_84 rfl (lv_at hl 0 rfl) ?_
      refine lv_iconst (v := 0) hx hb dX9_isWon_85 (by decide) ?_
      refine tpi (x' := nI 0) (rfl) ?_
      refine cpV (As := [.int (nI 0)]) (rest := [.int (bI true), .int (nI 1), .ref m0]) (k_X9_heap l D cA _ m0 hp v fh mv (0) hv hR hv11 hv12 hhp hfh hmv (by decide)) ⟨hx, hb, hml, hown, hts⟩ (cwV 1 hts gX9_isWon_X9_heap rfl rfl rfl (by decide +kernel) ⟨by decide, by decide⟩) hK hM hR rfl rfl hl.1 rfl (Nat.le_of_ble_eq_true rfl) dX9_isWon_86 ⟨by decide, by decide⟩ ?_
      refine lv_l2i hx hb dX9_isWon_89 rfl ?_
      refine tpi (x' := nI (hv 0)) (lN_i _) ?_
      refine lv_aload_n hx hb dX9_isWon_90 rfl (lv_at hl 0 rfl) ?_
      refine lv_iconst (v := 1) hx hb dX9_isWon_91 (by decide) ?_
      refine tpi (x' := nI 1) (rfl) ?_
      refine cpV (As := [.int (nI 1)]) (rest := [.int (nI (hv 0)), .int (bI true), .int (nI 1), .ref m0]) (k_X9_heap l D cA _ m0 hp v fh mv (1) hv hR hv11 hv12 hhp hfh hmv (by decide)) ⟨hx, hb, hml, hown, hts⟩ (cwV 1 hts gX9_isWon_X9_heap rfl rfl rfl (by decide +kernel) ⟨by decide, by decide⟩) hK hM hR rfl rfl hl.1 rfl (Nat.le_of_ble_eq_true rfl) dX9_isWon_92 ⟨by decide, by decide⟩ ?_
      refine lv_l2i hx hb dX9_isWon_95 rfl ?_
      refine tpi (x' := nI (hv 1)) (lN_i _) ?_
      refine cmV (As := [.int (nI 1), .int (bI true), .int (nI (hv 0)), .int (nI (hv 1))]) (rest := []) (k_X9_wonAt l D cA M m0 v wn ov fw fo 1 true (hv 0) (hv 1) hR hv3 hv4 hwn hov hT2 (by decide) h60.1 h60.2) ⟨hx, hb, hml, hown, hts⟩ (cwV 4 hts gX9_isWon_X9_wonAt rfl rfl rfl (by decide +kernel) ⟨by decide, by decide⟩) hK hh hR rfl rfl hl.1 rfl (Nat.le_of_ble_eq_true rfl) dX9_isWon_96 ⟨by decide, by decide⟩ (fun v9 M1 H1 locs1 hpost hh hz9 hk9 hn9 => ?_)
      obtain ⟨rfl, ⟨fw', fo', hwn1, hov1, hT21⟩, hkc⟩ := hpost
      have hRT1 : rtW cA M1 wn ov th it := ⟨⟨fw', fo', hwn1, hov1, hT21⟩, ⟨ft, fi, hkc _ _ hth (ni2 (mp_ne hth hwn (by simp)) (mp_ne hth hov (by simp))), hkc _ _ hit (ni2 (mp_ne hit hwn (by simp)) (mp_ne hit hov (by simp))), hT3⟩⟩
      have hA1 := hA.tab (hkc.wk (by simp)) hRT1
      have hkp := hkp.call hkc (by simp)
      have hM := hh.1
      refine W.eq (g2 := F0 m 99 ls [.int (bI (!lsB 1 true (hv 0) (hv 1)))]) rfl ?_
      refine lv_goto (tgt := 116) hx hb dX9_isWon_99 (by decide) ?_
      exact hretz _ _ _ _ _ _ _ _ (wnF g mi t hv bv) hh (by simp [wnF, hq, qm]) (⟨rfl, ⟨v, hA1, agS.rf v⟩, hkp⟩) (by decide) (by decide) dX9_isWon_116 rfl
  · refine lv_tableIn (tgt := 117) (off := 113) hx hb dX9_isWon_4 (by rw [hti]; omega) (by rw [hti]; omega) (by rw [hti, hq]; rfl) (by decide) ?_
    have ht1 := (hok.2.2.2.1 hq).1
    refine lv_aload_n hx hb dX9_isWon_117 rfl (lv_at hl 0 rfl) ?_
    refine lv_aload_n hx hb dX9_isWon_118 rfl (lv_at hl 0 rfl) ?_
    refine m_get (ci := 9) (C := RX9) (T := TX9) (N := 18) (v := v 10) hx hb hts in_X9 hown hK hM hR rfl 10 (by decide) fl_141 (fun _ h => h) rfl dX9_isWon_119 ?_
    refine tpv (hv10) ?_
    refine lv_aload_n hx hb dX9_isWon_122 rfl (lv_at hl 0 rfl) ?_
    refine lv_iconst (v := 0) hx hb dX9_isWon_123 (by decide) ?_
    refine tpi (x' := nI 0) (rfl) ?_
    refine cpV (As := [.int (nI 0)]) (rest := [.int (nI t), .ref m0]) (k_X9_heap l D cA _ m0 hp v fh mv (0) hv hR hv11 hv12 hhp hfh hmv (by decide)) ⟨hx, hb, hml, hown, hts⟩ (cwV 1 hts gX9_isWon_X9_heap rfl rfl rfl (by decide +kernel) ⟨by decide, by decide⟩) hK hM hR rfl rfl hl.1 rfl (Nat.le_of_ble_eq_true rfl) dX9_isWon_124 ⟨by decide, by decide⟩ ?_
    refine lv_aload_n hx hb dX9_isWon_127 rfl (lv_at hl 0 rfl) ?_
    refine m_get (ci := 9) (C := RX9) (T := TX9) (N := 18) (v := v 13) hx hb hts in_X9 hown hK hM hR rfl 13 (by decide) fl_39 (fun _ h => h) rfl dX9_isWon_128 ?_
    refine tpv (hv13) ?_
    refine lv_aload_n hx hb dX9_isWon_131 rfl (lv_at hl 0 rfl) ?_
    refine m_get (ci := 9) (C := RX9) (T := TX9) (N := 18) (v := v 11) hx hb hts in_X9 hown hK hM hR rfl 11 (by decide) fl_144 (fun _ h => h) rfl dX9_isWon_132 ?_
    refine tpv (hv11) ?_
    refine m_laldN (k := mv) hx hb hK hM hbd (rfl) (by omega) (by decide) dX9_isWon_135 ?_
    refine tpl (x' := lN bv) (hfb) ?_
    refine cmV (As := [.int (nI t), .long (lN (hv 0)), .long (lN bv)]) (rest := []) (k_X9_isTimes l D cA M m0 v ra f0 t (hv 0) bv hR hv1 hrw ht1 hok.2.2.1 hb0_ hbv) ⟨hx, hb, hml, hown, hts⟩ (cwV 3 hts gX9_isWon_X9_isTimes rfl rfl rfl (by decide +kernel) ⟨by decide, by decide⟩) hK hh hR rfl rfl hl.1 rfl (Nat.le_of_ble_eq_true rfl) dX9_isWon_136 ⟨by decide, by decide⟩ (fun v9 M1 H1 locs1 hpost hh hz9 hk9 hn9 => ?_)
    obtain ⟨rfl, hsc⟩ := hpost
    have hA1 := hA.scr hsc
    obtain ⟨-, -, -, -, -, hkc⟩ := id hsc
    have hkp := hkp.call hkc (by simp)
    have hM := hh.1
    refine W.eq (g2 := F0 m 139 ls [.int (bI (tiF t (hv 0) bv))]) rfl ?_
    exact hretz _ _ _ _ _ _ _ _ (wnF g mi t hv bv) hh (by simp [wnF, hq]) (⟨rfl, hA1, hkp⟩) (by decide) (by decide) dX9_isWon_139 rfl
  · refine lv_tableOut (tgt := 140) hx hb dX9_isWon_4 (Or.inr (by rw [hti]; omega)) (by decide) ?_
    have h10 := hok.2.2.2.2.2 hq
    refine lv_aload_n hx hb dX9_isWon_140 rfl (lv_at hl 0 rfl) ?_
    refine lv_aload_n hx hb dX9_isWon_141 rfl (lv_at hl 0 rfl) ?_
    refine m_get (ci := 9) (C := RX9) (T := TX9) (N := 18) (v := v 9) hx hb hts in_X9 hown hK hM hR rfl 9 (by decide) fl_138 (fun _ h => h) rfl dX9_isWon_142 ?_
    refine tpv (hv9) ?_
    refine lv_aload_n hx hb dX9_isWon_145 rfl (lv_at hl 0 rfl) ?_
    refine lv_iconst (v := 0) hx hb dX9_isWon_146 (by decide) ?_
    refine tpi (x' := nI 0) (rfl) ?_
    refine cpV (As := [.int (nI 0)]) (rest := [.int (bI mi), .ref m0]) (k_X9_heap l D cA _ m0 hp v fh mv (0) hv hR hv11 hv12 hhp hfh hmv (by decide)) ⟨hx, hb, hml, hown, hts⟩ (cwV 1 hts gX9_isWon_X9_heap rfl rfl rfl (by decide +kernel) ⟨by decide, by decide⟩) hK hM hR rfl rfl hl.1 rfl (Nat.le_of_ble_eq_true rfl) dX9_isWon_147 ⟨by decide, by decide⟩ ?_
    refine lv_l2i hx hb dX9_isWon_150 rfl ?_
    refine tpi (x' := nI (hv 0)) (lN_i _) ?_
    refine lv_aload_n hx hb dX9_isWon_151 rfl (lv_at hl 0 rfl) ?_
    refine lv_iconst (v := 1) hx hb dX9_isWon_152 (by decide) ?_
    refine tpi (x' := nI 1) (rfl) ?_
    refine cpV (As := [.int (nI 1)]) (rest := [.int (nI (hv 0)), .int (bI mi), .ref m0]) (k_X9_heap l D cA _ m0 hp v fh mv (1) hv hR hv11 hv12 hhp hfh hmv (by decide)) ⟨hx, hb, hml, hown, hts⟩ (cwV 1 hts gX9_isWon_X9_heap rfl rfl rfl (by decide +kernel) ⟨by decide, by decide⟩) hK hM hR rfl rfl hl.1 rfl (Nat.le_of_ble_eq_true rfl) dX9_isWon_153 ⟨by decide, by decide⟩ ?_
    refine lv_l2i hx hb dX9_isWon_156 rfl ?_
    refine tpi (x' := nI (hv 1)) (lN_i _) ?_
    refine lv_aload_n hx hb dX9_isWon_157 rfl (lv_at hl 0 rfl) ?_
    refine lv_iconst (v := 2) hx hb dX9_isWon_158 (by decide) ?_
    refine tpi (x' := nI 2) (rfl) ?_
    refine cpV (As := [.int (nI 2)]) (rest := [.int (nI (hv 1)), .int (nI (hv 0)), .int (bI mi), .ref m0]) (k_X9_heap l D cA _ m0 hp v fh mv (2) hv hR hv11 hv12 hhp hfh hmv (by decide)) ⟨hx, hb, hml, hown, hts⟩ (cwV 1 hts gX9_isWon_X9_heap rfl rfl rfl (by decide +kernel) ⟨by decide, by decide⟩) hK hM hR rfl rfl hl.1 rfl (Nat.le_of_ble_eq_true rfl) dX9_isWon_159 ⟨by decide, by decide⟩ ?_
    refine lv_l2i hx hb dX9_isWon_162 rfl ?_
    refine tpi (x' := nI (hv 2)) (lN_i _) ?_
    refine cmV (As := [.int (bI mi), .int (nI (hv 0)), .int (nI (hv 1)), .int (nI (hv 2))]) (rest := []) (k_X9_threeAt l D cA M m0 v th it ft fi mi (hv 0) (hv 1) (hv 2) hR hv5 hv6 hth h10.1 h10.2.1 h10.2.2 hit hT3) ⟨hx, hb, hml, hown, hts⟩ (cwV 4 hts gX9_isWon_X9_threeAt rfl rfl rfl (by decide +kernel) ⟨by decide, by decide⟩) hK hh hR rfl rfl hl.1 rfl (Nat.le_of_ble_eq_true rfl) dX9_isWon_163 ⟨by decide, by decide⟩ (fun v9 M1 H1 locs1 hpost hh hz9 hk9 hn9 => ?_)
    obtain ⟨rfl, ⟨ft', fi', hth1, hit1, hT31⟩, hkc⟩ := hpost
    have hRT1 : rtW cA M1 wn ov th it := ⟨⟨fw, fo, hkc _ _ hwn (ni2 (mp_ne hwn hth (by simp)) (mp_ne hwn hit (by simp))), hkc _ _ hov (ni2 (mp_ne hov hth (by simp)) (mp_ne hov hit (by simp))), hT2⟩, ⟨ft', fi', hth1, hit1, hT31⟩⟩
    have hA1 := hA.tab (hkc.wk (by simp)) hRT1
    have hkp := hkp.call hkc (by simp)
    have hM := hh.1
    refine W.eq (g2 := F0 m 166 ls [.int (bI (!ls3 mi (hv 0) (hv 1) (hv 2)))]) rfl ?_
    exact hretz _ _ _ _ _ _ _ _ (wnF g mi t hv bv) hh (by simp [wnF, hq]) (⟨rfl, ⟨v, hA1, agS.rf v⟩, hkp⟩) (by decide) (by decide) dX9_isWon_166 rfl
