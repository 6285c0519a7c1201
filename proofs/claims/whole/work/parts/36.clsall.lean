set_option maxHeartbeats 1000000 in
set_option maxRecDepth 100000 in
theorem k_X8_areHeapsOf (l : Launch) (D : va_G) (cA : Nat → ClassId) (M : mp) (g0 : Int32) (mi : Bool) (a b c0 : Int64)  : PC l D cA yX8_areHeapsOf wsX8_areHeapsOf 2 46 [.int g0, .int (bI mi), .long a, .long b, .long c0] M (some (.int (bI (ahF g0 mi a b c0)))) := by
  refine PC.zz (cc := cX8_areHeapsOf) (maxL := 10) (by decide) rfl (Nat.le_of_ble_eq_true rfl) ?_
  intro p e s m args below meth c H Q ls B hM hl hret
  obtain ⟨hx, hb, hown, hts, hml, hK, hin⟩ := B
  have hown : s.vm.findClass RX8 = some m.cls := hown
  have hl : lv_has ls 10 [(0, .int g0), (1, .int (bI mi)), (2, .long a), (4, .long b), (6, .long c0)] := hl
  have cst_109 := hts (.constantLong RX8 109 (1000000000000)) (by decide +kernel)
  have cst_142 := hts (.constantLong RX8 142 (60)) (by decide +kernel)
  have cst_182 := hts (.constantLong RX8 182 (10)) (by decide +kernel)
  refine lv_iload_n hx hb dX8_areHeapsOf_0 rfl (lv_at hl 0 rfl) ?_
  by_cases hlo : g0.toInt < 0
  · refine lv_tableOut (tgt := 140) hx hb dX8_areHeapsOf_1 (Or.inl hlo) (by decide) ?_
    have hbad : ∀ k : Nat, k < 4 → ¬ g0 = nI k := fun k hk z => by rw [z, nI_toInt (by omega)] at hlo; omega
    refine lv_iconst (v := 0) hx hb dX8_areHeapsOf_140 (by decide) ?_
    exact hret _ _ _ dX8_areHeapsOf_141 (by unfold ahF; rw [if_neg (fun z => z.elim (hbad 0 (by decide)) (hbad 1 (by decide))), if_neg (show ¬ g0 = 2 from hbad 2 (by decide)), if_neg (show ¬ g0 = 3 from hbad 3 (by decide))]; rfl)
  · by_cases hhi : 3 < g0.toInt
    · refine lv_tableOut (tgt := 140) hx hb dX8_areHeapsOf_1 (Or.inr hhi) (by decide) ?_
      have hbad : ∀ k : Nat, k < 4 → ¬ g0 = nI k := fun k hk z => by rw [z, nI_toInt (by omega)] at hhi; omega
      refine lv_iconst (v := 0) hx hb dX8_areHeapsOf_140 (by decide) ?_
      exact hret _ _ _ dX8_areHeapsOf_141 (by unfold ahF; rw [if_neg (fun z => z.elim (hbad 0 (by decide)) (hbad 1 (by decide))), if_neg (show ¬ g0 = 2 from hbad 2 (by decide)), if_neg (show ¬ g0 = 3 from hbad 3 (by decide))]; rfl)
    · rcases (show g0.toInt = 0 ∨ g0.toInt = 1 ∨ g0.toInt = 2 ∨ g0.toInt = 3 by omega) with hw | hw | hw | hw
      · have ew : g0 = nI 0 := sw_i (by decide) hw
        refine lv_tableIn (tgt := 32) (off := 31) hx hb dX8_areHeapsOf_1 hlo hhi (by rw [hw]; rfl) (by decide) ?_
        refine lv_iload_n hx hb dX8_areHeapsOf_32 rfl (lv_at hl 1 rfl) ?_
        refine bz_eq (tgt := 42) hx hb dX8_areHeapsOf_33 (by decide) (fun c_33 n_33 => ?_) (fun c_33 n_33 => ?_)
        · skip
          have qm := bI_eq0 c_33
          refine lv_ldc2 hx hb hown cst_109 dX8_areHeapsOf_42 ?_
          refine tpl (x' := (if mi then 60 else 1000000000000)) (by rw [qm]; rfl) ?_
          refine lv_lstore (lv' := [(8, .long ((if mi then 60 else 1000000000000))), (0, .int g0), (1, .int (bI mi)), (2, .long a), (4, .long b), (6, .long c0)]) hx hb dX8_areHeapsOf_45 hl (by decide) rfl (fun ls hl => ?_)
          refine lv_lload_n hx hb dX8_areHeapsOf_47 rfl (lv_at hl 3 rfl) ?_
          refine lv_lconst (v := 0) hx hb dX8_areHeapsOf_48 (by decide) ?_
          refine lv_lload hx hb dX8_areHeapsOf_49 (lv_at hl 0 rfl) ?_
          refine cpS (As := [.long a, .long 0, .long ((if mi then 60 else 1000000000000))]) (rest := []) (k_X8_isWithin l D cA _ (a) 0 (if mi then 60 else 1000000000000)) ⟨hx, hb, hml, hown, hts⟩ (va_cwS 3 hts gX8_areHeapsOf_X8_isWithin rfl rfl rfl (by decide +kernel) ⟨by decide, by decide⟩) hK hM rfl hl.1 rfl (Nat.le_of_ble_eq_true rfl) dX8_areHeapsOf_51 ⟨by decide, by decide⟩ ?_
          refine bz_eq (tgt := 72) hx hb dX8_areHeapsOf_54 (by decide) (fun c_54 n_54 => ?_) (fun c_54 n_54 => ?_)
          · skip
            have h1 := bI_eq0 c_54
            refine lv_iconst (v := 0) hx hb dX8_areHeapsOf_72 (by decide) ?_
            exact hret _ _ _ dX8_areHeapsOf_73 (by rw [ew]; unfold ahF; rw [if_pos (by decide)]; simp only [h1]; rfl)
          · skip
            have h1 := bI_ne0 c_54
            refine lv_lload hx hb dX8_areHeapsOf_57 (lv_at hl 4 rfl) ?_
            refine lv_lconst (v := 0) hx hb dX8_areHeapsOf_59 (by decide) ?_
            refine lv_lload hx hb dX8_areHeapsOf_60 (lv_at hl 0 rfl) ?_
            refine cpS (As := [.long b, .long 0, .long ((if mi then 60 else 1000000000000))]) (rest := []) (k_X8_isWithin l D cA _ (b) 0 (if mi then 60 else 1000000000000)) ⟨hx, hb, hml, hown, hts⟩ (va_cwS 3 hts gX8_areHeapsOf_X8_isWithin rfl rfl rfl (by decide +kernel) ⟨by decide, by decide⟩) hK hM rfl hl.1 rfl (Nat.le_of_ble_eq_true rfl) dX8_areHeapsOf_62 ⟨by decide, by decide⟩ ?_
            refine bz_eq (tgt := 72) hx hb dX8_areHeapsOf_65 (by decide) (fun c_65 n_65 => ?_) (fun c_65 n_65 => ?_)
            · skip
              have h2 := bI_eq0 c_65
              refine lv_iconst (v := 0) hx hb dX8_areHeapsOf_72 (by decide) ?_
              exact hret _ _ _ dX8_areHeapsOf_73 (by rw [ew]; unfold ahF; rw [if_pos (by decide)]; simp only [h1, h2]; rfl)
            · skip
              have h2 := bI_ne0 c_65
              refine lv_iconst (v := 1) hx hb dX8_areHeapsOf_68 (by decide) ?_
              refine lv_goto (tgt := 73) hx hb dX8_areHeapsOf_69 (by decide) ?_
              exact hret _ _ _ dX8_areHeapsOf_73 (by rw [ew]; unfold ahF; rw [if_pos (by decide)]; simp only [h1, h2]; rfl)
        · skip
          have qm := bI_ne0 c_33
          refine lv_ldc2 hx hb hown cst_142 dX8_areHeapsOf_36 ?_
          refine tpl (x' := (if mi then 60 else 1000000000000)) (by rw [qm]; rfl) ?_
          refine lv_goto (tgt := 45) hx hb dX8_areHeapsOf_39 (by decide) ?_
          refine lv_lstore (lv' := [(8, .long ((if mi then 60 else 1000000000000))), (0, .int g0), (1, .int (bI mi)), (2, .long a), (4, .long b), (6, .long c0)]) hx hb dX8_areHeapsOf_45 hl (by decide) rfl (fun ls hl => ?_)
          refine lv_lload_n hx hb dX8_areHeapsOf_47 rfl (lv_at hl 3 rfl) ?_
          refine lv_lconst (v := 0) hx hb dX8_areHeapsOf_48 (by decide) ?_
          refine lv_lload hx hb dX8_areHeapsOf_49 (lv_at hl 0 rfl) ?_
          refine cpS (As := [.long a, .long 0, .long ((if mi then 60 else 1000000000000))]) (rest := []) (k_X8_isWithin l D cA _ (a) 0 (if mi then 60 else 1000000000000)) ⟨hx, hb, hml, hown, hts⟩ (va_cwS 3 hts gX8_areHeapsOf_X8_isWithin rfl rfl rfl (by decide +kernel) ⟨by decide, by decide⟩) hK hM rfl hl.1 rfl (Nat.le_of_ble_eq_true rfl) dX8_areHeapsOf_51 ⟨by decide, by decide⟩ ?_
          refine bz_eq (tgt := 72) hx hb dX8_areHeapsOf_54 (by decide) (fun c_54 n_54 => ?_) (fun c_54 n_54 => ?_)
          · skip
            have h1 := bI_eq0 c_54
            refine lv_iconst (v := 0) hx hb dX8_areHeapsOf_72 (by decide) ?_
            exact hret _ _ _ dX8_areHeapsOf_73 (by rw [ew]; unfold ahF; rw [if_pos (by decide)]; simp only [h1]; rfl)
          · skip
            have h1 := bI_ne0 c_54
            refine lv_lload hx hb dX8_areHeapsOf_57 (lv_at hl 4 rfl) ?_
            refine lv_lconst (v := 0) hx hb dX8_areHeapsOf_59 (by decide) ?_
            refine lv_lload hx hb dX8_areHeapsOf_60 (lv_at hl 0 rfl) ?_
            refine cpS (As := [.long b, .long 0, .long ((if mi then 60 else 1000000000000))]) (rest := []) (k_X8_isWithin l D cA _ (b) 0 (if mi then 60 else 1000000000000)) ⟨hx, hb, hml, hown, hts⟩ (va_cwS 3 hts gX8_areHeapsOf_X8_isWithin rfl rfl rfl (by decide +kernel) ⟨by decide, by decide⟩) hK hM rfl hl.1 rfl (Nat.le_of_ble_eq_true rfl) dX8_areHeapsOf_62 ⟨by decide, by decide⟩ ?_
            refine bz_eq (tgt := 72) hx hb dX8_areHeapsOf_65 (by decide) (fun c_65 n_65 => ?_) (fun c_65 n_65 => ?_)
            · skip
              have h2 := bI_eq0 c_65
              refine lv_iconst (v := 0) hx hb dX8_areHeapsOf_72 (by decide) ?_
              exact hret _ _ _ dX8_areHeapsOf_73 (by rw [ew]; unfold ahF; rw [if_pos (by decide)]; simp only [h1, h2]; rfl)
            · skip
              have h2 := bI_ne0 c_65
              refine lv_iconst (v := 1) hx hb dX8_areHeapsOf_68 (by decide) ?_
              refine lv_goto (tgt := 73) hx hb dX8_areHeapsOf_69 (by decide) ?_
              exact hret _ _ _ dX8_areHeapsOf_73 (by rw [ew]; unfold ahF; rw [if_pos (by decide)]; simp only [h1, h2]; rfl)
      · have ew : g0 = nI 1 := sw_i (by decide) hw
        refine lv_tableIn (tgt := 32) (off := 31) hx hb dX8_areHeapsOf_1 hlo hhi (by rw [hw]; rfl) (by decide) ?_
        refine lv_iload_n hx hb dX8_areHeapsOf_32 rfl (lv_at hl 1 rfl) ?_
        refine bz_eq (tgt := 42) hx hb dX8_areHeapsOf_33 (by decide) (fun c_33 n_33 => ?_) (fun c_33 n_33 => ?_)
        · skip
          have qm := bI_eq0 c_33
          refine lv_ldc2 hx hb hown cst_109 dX8_areHeapsOf_42 ?_
          refine tpl (x' := (if mi then 60 else 1000000000000)) (by rw [qm]; rfl) ?_
          refine lv_lstore (lv' := [(8, .long ((if mi then 60 else 1000000000000))), (0, .int g0), (1, .int (bI mi)), (2, .long a), (4, .long b), (6, .long c0)]) hx hb dX8_areHeapsOf_45 hl (by decide) rfl (fun ls hl => ?_)
          refine lv_lload_n hx hb dX8_areHeapsOf_47 rfl (lv_at hl 3 rfl) ?_
          refine lv_lconst (v := 0) hx hb dX8_areHeapsOf_48 (by decide) ?_
          refine lv_lload hx hb dX8_areHeapsOf_49 (lv_at hl 0 rfl) ?_
          refine cpS (As := [.long a, .long 0, .long ((if mi then 60 else 1000000000000))]) (rest := []) (k_X8_isWithin l D cA _ (a) 0 (if mi then 60 else 1000000000000)) ⟨hx, hb, hml, hown, hts⟩ (va_cwS 3 hts gX8_areHeapsOf_X8_isWithin rfl rfl rfl (by decide +kernel) ⟨by decide, by decide⟩) hK hM rfl hl.1 rfl (Nat.le_of_ble_eq_true rfl) dX8_areHeapsOf_51 ⟨by decide, by decide⟩ ?_
          refine bz_eq (tgt := 72) hx hb dX8_areHeapsOf_54 (by decide) (fun c_54 n_54 => ?_) (fun c_54 n_54 => ?_)
          · skip
            have h1 := bI_eq0 c_54
            refine lv_iconst (v := 0) hx hb dX8_areHeapsOf_72 (by decide) ?_
            exact hret _ _ _ dX8_areHeapsOf_73 (by rw [ew]; unfold ahF; rw [if_pos (by decide)]; simp only [h1]; rfl)
          · skip
            have h1 := bI_ne0 c_54
            refine lv_lload hx hb dX8_areHeapsOf_57 (lv_at hl 4 rfl) ?_
            refine lv_lconst (v := 0) hx hb dX8_areHeapsOf_59 (by decide) ?_
            refine lv_lload hx hb dX8_areHeapsOf_60 (lv_at hl 0 rfl) ?_
            refine cpS (As := [.long b, .long 0, .long ((if mi then 60 else 1000000000000))]) (rest := []) (k_X8_isWithin l D cA _ (b) 0 (if mi then 60 else 1000000000000)) ⟨hx, hb, hml, hown, hts⟩ (va_cwS 3 hts gX8_areHeapsOf_X8_isWithin rfl rfl rfl (by decide +kernel) ⟨by decide, by decide⟩) hK hM rfl hl.1 rfl (Nat.le_of_ble_eq_true rfl) dX8_areHeapsOf_62 ⟨by decide, by decide⟩ ?_
            refine bz_eq (tgt := 72) hx hb dX8_areHeapsOf_65 (by decide) (fun c_65 n_65 => ?_) (fun c_65 n_65 => ?_)
            · skip
              have h2 := bI_eq0 c_65
              refine lv_iconst (v := 0) hx hb dX8_areHeapsOf_72 (by decide) ?_
              exact hret _ _ _ dX8_areHeapsOf_73 (by rw [ew]; unfold ahF; rw [if_pos (by decide)]; simp only [h1, h2]; rfl)
            · skip
              have h2 := bI_ne0 c_65
              refine lv_iconst (v := 1) hx hb dX8_areHeapsOf_68 (by decide) ?_
              refine lv_goto (tgt := 73) hx hb dX8_areHeapsOf_69 (by decide) ?_
              exact hret _ _ _ dX8_areHeapsOf_73 (by rw [ew]; unfold ahF; rw [if_pos (by decide)]; simp only [h1, h2]; rfl)
        · skip
          have qm := bI_ne0 c_33
          refine lv_ldc2 hx hb hown cst_142 dX8_areHeapsOf_36 ?_
          refine tpl (x' := (if mi then 60 else 1000000000000)) (by rw [qm]; rfl) ?_
          refine lv_goto (tgt := 45) hx hb dX8_areHeapsOf_39 (by decide) ?_
          refine lv_lstore (lv' := [(8, .long ((if mi then 60 else 1000000000000))), (0, .int g0), (1, .int (bI mi)), (2, .long a), (4, .long b), (6, .long c0)]) hx hb dX8_areHeapsOf_45 hl (by decide) rfl (fun ls hl => ?_)
          refine lv_lload_n hx hb dX8_areHeapsOf_47 rfl (lv_at hl 3 rfl) ?_
          refine lv_lconst (v := 0) hx hb dX8_areHeapsOf_48 (by decide) ?_
          refine lv_lload hx hb dX8_areHeapsOf_49 (lv_at hl 0 rfl) ?_
          refine cpS (As := [.long a, .long 0, .long ((if mi then 60 else 1000000000000))]) (rest := []) (k_X8_isWithin l D cA _ (a) 0 (if mi then 60 else 1000000000000)) ⟨hx, hb, hml, hown, hts⟩ (va_cwS 3 hts gX8_areHeapsOf_X8_isWithin rfl rfl rfl (by decide +kernel) ⟨by decide, by decide⟩) hK hM rfl hl.1 rfl (Nat.le_of_ble_eq_true rfl) dX8_areHeapsOf_51 ⟨by decide, by decide⟩ ?_
          refine bz_eq (tgt := 72) hx hb dX8_areHeapsOf_54 (by decide) (fun c_54 n_54 => ?_) (fun c_54 n_54 => ?_)
          · skip
            have h1 := bI_eq0 c_54
            refine lv_iconst (v := 0) hx hb dX8_areHeapsOf_72 (by decide) ?_
            exact hret _ _ _ dX8_areHeapsOf_73 (by rw [ew]; unfold ahF; rw [if_pos (by decide)]; simp only [h1]; rfl)
          · skip
            have h1 := bI_ne0 c_54
            refine lv_lload hx hb dX8_areHeapsOf_57 (lv_at hl 4 rfl) ?_
            refine lv_lconst (v := 0) hx hb dX8_areHeapsOf_59 (by decide) ?_
            refine lv_lload hx hb dX8_areHeapsOf_60 (lv_at hl 0 rfl) ?_
            refine cpS (As := [.long b, .long 0, .long ((if mi then 60 else 1000000000000))]) (rest := []) (k_X8_isWithin l D cA _ (b) 0 (if mi then 60 else 1000000000000)) ⟨hx, hb, hml, hown, hts⟩ (va_cwS 3 hts gX8_areHeapsOf_X8_isWithin rfl rfl rfl (by decide +kernel) ⟨by decide, by decide⟩) hK hM rfl hl.1 rfl (Nat.le_of_ble_eq_true rfl) dX8_areHeapsOf_62 ⟨by decide, by decide⟩ ?_
            refine bz_eq (tgt := 72) hx hb dX8_areHeapsOf_65 (by decide) (fun c_65 n_65 => ?_) (fun c_65 n_65 => ?_)
            · skip
              have h2 := bI_eq0 c_65
              refine lv_iconst (v := 0) hx hb dX8_areHeapsOf_72 (by decide) ?_
              exact hret _ _ _ dX8_areHeapsOf_73 (by rw [ew]; unfold ahF; rw [if_pos (by decide)]; simp only [h1, h2]; rfl)
            · skip
              have h2 := bI_ne0 c_65
              refine lv_iconst (v := 1) hx hb dX8_areHeapsOf_68 (by decide) ?_
              refine lv_goto (tgt := 73) hx hb dX8_areHeapsOf_69 (by decide) ?_
              exact hret _ _ _ dX8_areHeapsOf_73 (by rw [ew]; unfold ahF; rw [if_pos (by decide)]; simp only [h1, h2]; rfl)
      · have ew : g0 = nI 2 := sw_i (by decide) hw
        refine lv_tableIn (tgt := 74) (off := 73) hx hb dX8_areHeapsOf_1 hlo hhi (by rw [hw]; rfl) (by decide) ?_
        refine lv_iload_n hx hb dX8_areHeapsOf_74 rfl (lv_at hl 1 rfl) ?_
        refine bz_ne (tgt := 97) hx hb dX8_areHeapsOf_75 (by decide) (fun c_75 n_75 => ?_) (fun c_75 n_75 => ?_)
        · skip
          have qm := bI_ne0 c_75
          refine lv_iconst (v := 0) hx hb dX8_areHeapsOf_97 (by decide) ?_
          exact hret _ _ _ dX8_areHeapsOf_98 (by rw [ew]; unfold ahF; rw [if_neg (by decide), if_pos (by decide)]; simp [bI, qm])
        · skip
          have qm := bI_eq0 c_75
          refine lv_lload_n hx hb dX8_areHeapsOf_78 rfl (lv_at hl 2 rfl) ?_
          refine cpS (As := [.long a]) (rest := []) (k_X8_isHeap l D cA _ a) ⟨hx, hb, hml, hown, hts⟩ (va_cwS 1 hts gX8_areHeapsOf_X8_isHeap rfl rfl rfl (by decide +kernel) ⟨by decide, by decide⟩) hK hM rfl hl.1 rfl (Nat.le_of_ble_eq_true rfl) dX8_areHeapsOf_79 ⟨by decide, by decide⟩ ?_
          refine bz_eq (tgt := 97) hx hb dX8_areHeapsOf_82 (by decide) (fun c_82 n_82 => ?_) (fun c_82 n_82 => ?_)
          · skip
            have h1 := bI_eq0 c_82
            refine lv_iconst (v := 0) hx hb dX8_areHeapsOf_97 (by decide) ?_
            exact hret _ _ _ dX8_areHeapsOf_98 (by rw [ew]; unfold ahF; rw [if_neg (by decide), if_pos (by decide)]; simp [bI, qm, h1])
          · skip
            have h1 := bI_ne0 c_82
            refine lv_lload hx hb dX8_areHeapsOf_85 (lv_at hl 3 rfl) ?_
            refine cpS (As := [.long b]) (rest := []) (k_X8_isFactor l D cA _ b) ⟨hx, hb, hml, hown, hts⟩ (va_cwS 1 hts gX8_areHeapsOf_X8_isFactor rfl rfl rfl (by decide +kernel) ⟨by decide, by decide⟩) hK hM rfl hl.1 rfl (Nat.le_of_ble_eq_true rfl) dX8_areHeapsOf_87 ⟨by decide, by decide⟩ ?_
            refine bz_eq (tgt := 97) hx hb dX8_areHeapsOf_90 (by decide) (fun c_90 n_90 => ?_) (fun c_90 n_90 => ?_)
            · skip
              have h2 := bI_eq0 c_90
              refine lv_iconst (v := 0) hx hb dX8_areHeapsOf_97 (by decide) ?_
              exact hret _ _ _ dX8_areHeapsOf_98 (by rw [ew]; unfold ahF; rw [if_neg (by decide), if_pos (by decide)]; simp [bI, qm, h1, h2])
            · skip
              have h2 := bI_ne0 c_90
              refine lv_iconst (v := 1) hx hb dX8_areHeapsOf_93 (by decide) ?_
              refine lv_goto (tgt := 98) hx hb dX8_areHeapsOf_94 (by decide) ?_
              exact hret _ _ _ dX8_areHeapsOf_98 (by rw [ew]; unfold ahF; rw [if_neg (by decide), if_pos (by decide)]; simp [bI, qm, h1, h2])
      · have ew : g0 = nI 3 := sw_i (by decide) hw
        refine lv_tableIn (tgt := 99) (off := 98) hx hb dX8_areHeapsOf_1 hlo hhi (by rw [hw]; rfl) (by decide) ?_
        refine lv_lload_n hx hb dX8_areHeapsOf_99 rfl (lv_at hl 2 rfl) ?_
        refine lv_lconst (v := 0) hx hb dX8_areHeapsOf_100 (by decide) ?_
        refine lv_ldc2 hx hb hown cst_182 dX8_areHeapsOf_101 ?_
        refine cpS (As := [.long a, .long 0, .long 10]) (rest := []) (k_X8_isWithin l D cA _ (a) 0 10) ⟨hx, hb, hml, hown, hts⟩ (va_cwS 3 hts gX8_areHeapsOf_X8_isWithin rfl rfl rfl (by decide +kernel) ⟨by decide, by decide⟩) hK hM rfl hl.1 rfl (Nat.le_of_ble_eq_true rfl) dX8_areHeapsOf_104 ⟨by decide, by decide⟩ ?_
        refine bz_eq (tgt := 138) hx hb dX8_areHeapsOf_107 (by decide) (fun c_107 n_107 => ?_) (fun c_107 n_107 => ?_)
        · skip
          have h1 := bI_eq0 c_107
          refine lv_iconst (v := 0) hx hb dX8_areHeapsOf_138 (by decide) ?_
          exact hret _ _ _ dX8_areHeapsOf_139 (by rw [ew]; unfold ahF; rw [if_neg (by decide), if_neg (by decide), if_pos (by decide)]; simp [bI, h1])
        · skip
          have h1 := bI_ne0 c_107
          refine lv_lload hx hb dX8_areHeapsOf_110 (lv_at hl 3 rfl) ?_
          refine lv_lconst (v := 0) hx hb dX8_areHeapsOf_112 (by decide) ?_
          refine lv_ldc2 hx hb hown cst_182 dX8_areHeapsOf_113 ?_
          refine cpS (As := [.long b, .long 0, .long 10]) (rest := []) (k_X8_isWithin l D cA _ (b) 0 10) ⟨hx, hb, hml, hown, hts⟩ (va_cwS 3 hts gX8_areHeapsOf_X8_isWithin rfl rfl rfl (by decide +kernel) ⟨by decide, by decide⟩) hK hM rfl hl.1 rfl (Nat.le_of_ble_eq_true rfl) dX8_areHeapsOf_116 ⟨by decide, by decide⟩ ?_
          refine bz_eq (tgt := 138) hx hb dX8_areHeapsOf_119 (by decide) (fun c_119 n_119 => ?_) (fun c_119 n_119 => ?_)
          · skip
            have h2 := bI_eq0 c_119
            refine lv_iconst (v := 0) hx hb dX8_areHeapsOf_138 (by decide) ?_
            exact hret _ _ _ dX8_areHeapsOf_139 (by rw [ew]; unfold ahF; rw [if_neg (by decide), if_neg (by decide), if_pos (by decide)]; simp [bI, h1, h2])
          · skip
            have h2 := bI_ne0 c_119
            refine lv_lload hx hb dX8_areHeapsOf_122 (lv_at hl 4 rfl) ?_
            refine lv_lconst (v := 0) hx hb dX8_areHeapsOf_124 (by decide) ?_
            refine lv_ldc2 hx hb hown cst_182 dX8_areHeapsOf_125 ?_
            refine cpS (As := [.long c0, .long 0, .long 10]) (rest := []) (k_X8_isWithin l D cA _ (c0) 0 10) ⟨hx, hb, hml, hown, hts⟩ (va_cwS 3 hts gX8_areHeapsOf_X8_isWithin rfl rfl rfl (by decide +kernel) ⟨by decide, by decide⟩) hK hM rfl hl.1 rfl (Nat.le_of_ble_eq_true rfl) dX8_areHeapsOf_128 ⟨by decide, by decide⟩ ?_
            refine bz_eq (tgt := 138) hx hb dX8_areHeapsOf_131 (by decide) (fun c_131 n_131 => ?_) (fun c_131 n_131 => ?_)
            · skip
              have h3 := bI_eq0 c_131
              refine lv_iconst (v := 0) hx hb dX8_areHeapsOf_138 (by decide) ?_
              exact hret _ _ _ dX8_areHeapsOf_139 (by rw [ew]; unfold ahF; rw [if_neg (by decide), if_neg (by decide), if_pos (by decide)]; simp [bI, h1, h2, h3])
            · skip
              have h3 := bI_ne0 c_131
              refine lv_iconst (v := 1) hx hb dX8_areHeapsOf_134 (by decide) ?_
              refine lv_goto (tgt := 139) hx hb dX8_areHeapsOf_135 (by decide) ?_
              exact hret _ _ _ dX8_areHeapsOf_139 (by rw [ew]; unfold ahF; rw [if_neg (by decide), if_neg (by decide), if_pos (by decide)]; simp [bI, h1, h2, h3])
set_option maxHeartbeats 1000000 in
set_option maxRecDepth 100000 in
theorem k_X8_byAll (l : Launch) (D : va_G) (cA : Nat → ClassId) (M : mp) (x J P TG GO SG BG TM SM : Nat) (g : Int32) (mi : Bool) (a b c0 : Int32)  (hx0 : M x = some (.inr (8, [.ref J, .ref P]))) (hJD : jdW cA M J TG GO SG BG TM SM)  : MC l D cA yX8_byAll wsX8_byAll 4 114 3 123 [.ref x, .int g, .int (bI mi), .int a, .int b, .int c0] M (fun r M' => r = some (.int (byV g mi a b c0)) ∧ jdW cA M' J TG GO SG BG TM SM ∧ kpL M M' [TM]) := by
  refine MC.of (cc := cX8_byAll) (maxL := 6) (ret := (some .int)) (by decide) rfl (Nat.le_of_ble_eq_true rfl) ?_
  intro p e s m args below meth c Q ls B hh hl hretv hreti hretz hretl hreta
  obtain ⟨hx, hb, hown, hts, hml, hK, hin⟩ := B
  have hM := hh.1
  have hM_0 := hh.1
  have hkp : kpL M M [TM] := kpL.rf M _
  have hown : s.vm.findClass RX8 = some m.cls := hown
  have hl : lv_has ls 6 [(0, .ref x), (1, .int g), (2, .int (bI mi)), (3, .int a), (4, .int b), (5, .int c0)] := hl
  have in_X8 : ∀ w ∈ wsX80, w ∈ wsX8_byAll := by decide +kernel
  have fl_10 := hts (.fieldLink RX8 10 "GoldHeaps" "judge" "LGoldHeaps$Judge;") (by decide +kernel)
  obtain ⟨⟨hj, hsg, hbg, hG0⟩, hT, hW0, hX0⟩ := id hJD
  obtain ⟨ft0, hTM, -⟩ := id hX0
  refine lv_iload_n hx hb dX8_byAll_0 rfl (lv_at hl 1 rfl) ?_
  refine lv_iconst (v := 1) hx hb dX8_byAll_1 (by decide) ?_
  refine tpi (x' := bI true) (rfl) ?_
  refine lv_iload_n hx hb dX8_byAll_2 rfl (lv_at hl 3 rfl) ?_
  refine lv_i2l hx hb dX8_byAll_3 rfl ?_
  refine lv_iload hx hb dX8_byAll_4 (lv_at hl 4 rfl) ?_
  refine lv_i2l hx hb dX8_byAll_6 rfl ?_
  refine lv_iload hx hb dX8_byAll_7 (lv_at hl 5 rfl) ?_
  refine lv_i2l hx hb dX8_byAll_9 rfl ?_
  refine cpS (As := [.int g, .int (bI true), .long ((a).toInt64), .long ((b).toInt64), .long ((c0).toInt64)]) (rest := []) (k_X8_areHeapsOf l D cA _ g (true) (a.toInt64) (b.toInt64) (c0.toInt64)) ⟨hx, hb, hml, hown, hts⟩ (va_cwS 5 hts gX8_byAll_X8_areHeapsOf rfl rfl rfl (by decide +kernel) ⟨by decide, by decide⟩) hK hM rfl hl.1 rfl (Nat.le_of_ble_eq_true rfl) dX8_byAll_10 ⟨by decide, by decide⟩ ?_
  refine bz_ne (tgt := 19) hx hb dX8_byAll_13 (by decide) (fun c_13 n_13 => ?_) (fun c_13 n_13 => ?_)
  · skip
    have h1 := bI_ne0 c_13
    obtain ⟨⟨eg, hg3⟩, hcs⟩ := ah_case h1
    have hgc : nB g = 0 ∨ nB g = 1 ∨ nB g = 3 := by rcases hcs with q | q | q; omega; (exact absurd q.2.1 (by decide)); omega
    have hab : a = nI (nB a) ∧ b = nI (nB b) ∧ nB a ≤ 60 ∧ nB b ≤ 60 ∧ (nB g = 3 → nB a ≤ 10 ∧ nB b ≤ 10 ∧ c0 = nI (nB c0) ∧ nB c0 ≤ 10) := by
      rcases hcs with q | q | q
      · have qa := in_i32 (a := 0) (b := 60) (by decide) q.2.1 (by decide)
        have qb := in_i32 (a := 0) (b := 60) (by decide) q.2.2 (by decide)
        exact ⟨qa.1, qb.1, qa.2.2, qb.2.2, fun z => by omega⟩
      · exact absurd q.2.1 (by decide)
      · have qa := in_i32 (a := 0) (b := 10) (by decide) q.2.1 (by decide)
        have qb := in_i32 (a := 0) (b := 10) (by decide) q.2.2.1 (by decide)
        have qc := in_i32 (a := 0) (b := 10) (by decide) q.2.2.2 (by decide)
        exact ⟨qa.1, qb.1, by omega, by omega, fun _ => ⟨qa.2.2, qb.2.2, qc.1, qc.2.2⟩⟩
    obtain ⟨ea, eb, la0, lb0, hc3⟩ := hab
    refine lv_aload_n hx hb dX8_byAll_19 rfl (lv_at hl 0 rfl) ?_
    refine m_get (ci := 8) (C := RX8) (T := TX8) (N := 2) (v := .ref J) hx hb hts in_X8 hown hK hM hx0 rfl 0 (by decide) fl_10 (fun _ h => h) rfl dX8_byAll_20 ?_
    refine lv_iload_n hx hb dX8_byAll_23 rfl (lv_at hl 1 rfl) ?_
    refine lv_iload_n hx hb dX8_byAll_24 rfl (lv_at hl 2 rfl) ?_
    refine cmV (As := [.int g, .int (bI mi)]) (rest := []) (by have h9 := k_X2_tableOfG l D cA _ (nB g) J TG GO SG BG TM mi hgc hj hX0; rw [← eg] at h9; exact h9) ⟨hx, hb, hml, hown, hts⟩ (cwV 2 hts gX8_byAll_X2_tableOf rfl rfl rfl (by decide +kernel) ⟨by decide, by decide⟩) hK hh hj rfl rfl hl.1 rfl (Nat.le_of_ble_eq_true rfl) dX8_byAll_25 ⟨by decide, by decide⟩ (fun v9 M1 H1 locs1 hpost hh hz9 hk9 hn9 => ?_)
    obtain ⟨⟨sa, rfl, htab⟩, hX1, hkc⟩ := hpost
    have hJ1 : jdW cA M1 J TG GO SG BG TM SM := ⟨hJD.1.kp (kpI.of1 hkc hTM (fun z => z)), (kpI.of1 hkc hTM (fun z => z)) _ _ hT ⟨by decide, by decide⟩, hW0.kT hX0 hkc, hX1⟩
    obtain ⟨o3, la, hsa1⟩ := htab.obj
    have hsa : M1 sa = some (.inr (3, [.int o3, .ref la])) := hsa1
    have hkp := hkp.call hkc (by simp)
    have hM := hh.1
    refine W.widen (k := 3) (n := 123) (by decide) (by decide) ?_
    refine W.eq (g2 := F0 m 28 ls [.ref sa]) rfl ?_
    refine lv_iload_n hx hb dX8_byAll_28 rfl (lv_at hl 3 rfl) ?_
    refine lv_iload hx hb dX8_byAll_29 (lv_at hl 4 rfl) ?_
    refine lv_iload hx hb dX8_byAll_31 (lv_at hl 5 rfl) ?_
    refine cpV (As := [.int a, .int b, .int c0]) (rest := []) (by have h9 := k_X3_hasR l D cA _ (nB g) mi sa (nB a) (nB b) c0 hgc htab (fun _ => ⟨la0, lb0⟩) hc3; rw [← ea, ← eb] at h9; exact h9) ⟨hx, hb, hml, hown, hts⟩ (cwV 3 hts gX8_byAll_X3_has rfl rfl rfl (by decide +kernel) ⟨by decide, by decide⟩) hK hM hsa rfl rfl hl.1 rfl (Nat.le_of_ble_eq_true rfl) dX8_byAll_33 ⟨by decide, by decide⟩ ?_
    refine bz_ne (tgt := 43) hx hb dX8_byAll_36 (by decide) (fun c_36 n_36 => ?_) (fun c_36 n_36 => ?_)
    · skip
      have h5 := bI_ne0 c_36
      refine lv_iconst (v := 0) hx hb dX8_byAll_43 (by decide) ?_
      refine tpi (x' := bI (!lsG (nB g) mi (nB a) (nB b) (nB c0))) (by rw [h5]; rfl) ?_
      refine cpS (As := [.int (bI (!lsG (nB g) mi (nB a) (nB b) (nB c0)))]) (rest := []) (k_X8_oneIf l D cA _ (!lsG (nB g) mi (nB a) (nB b) (nB c0))) ⟨hx, hb, hml, hown, hts⟩ (va_cwS 1 hts gX8_byAll_X8_oneIf rfl rfl rfl (by decide +kernel) ⟨by decide, by decide⟩) hK hM rfl hl.1 rfl (Nat.le_of_ble_eq_true rfl) dX8_byAll_44 ⟨by decide, by decide⟩ ?_
      exact hreti _ _ _ _ _ _ _ _ hh (⟨by unfold byV; rw [if_pos h1], hJ1, hkp⟩) (by decide) (by decide) dX8_byAll_47 rfl
    · skip
      have h5 := bI_eq0 c_36
      refine lv_iconst (v := 1) hx hb dX8_byAll_39 (by decide) ?_
      refine tpi (x' := bI (!lsG (nB g) mi (nB a) (nB b) (nB c0))) (by rw [h5]; rfl) ?_
      refine lv_goto (tgt := 44) hx hb dX8_byAll_40 (by decide) ?_
      refine cpS (As := [.int (bI (!lsG (nB g) mi (nB a) (nB b) (nB c0)))]) (rest := []) (k_X8_oneIf l D cA _ (!lsG (nB g) mi (nB a) (nB b) (nB c0))) ⟨hx, hb, hml, hown, hts⟩ (va_cwS 1 hts gX8_byAll_X8_oneIf rfl rfl rfl (by decide +kernel) ⟨by decide, by decide⟩) hK hM rfl hl.1 rfl (Nat.le_of_ble_eq_true rfl) dX8_byAll_44 ⟨by decide, by decide⟩ ?_
      exact hreti _ _ _ _ _ _ _ _ hh (⟨by unfold byV; rw [if_pos h1], hJ1, hkp⟩) (by decide) (by decide) dX8_byAll_47 rfl
  · skip
    have h1 := bI_eq0 c_13
    refine lv_bipush (v := (-2)) hx hb dX8_byAll_16 (by decide) ?_
    exact hreti _ _ _ _ _ _ _ _ hh (⟨by simp [byV, h1], hJD, hkp⟩) (by decide) (by decide) dX8_byAll_18 rfl
set_option maxHeartbeats 1000000 in
set_option maxRecDepth 100000 in
theorem k_X8_lostUpTo (l : Launch) (D : va_G) (cA : Nat → ClassId) (M : mp) (x J P TG GO SG BG TM SM : Nat) (g : Int32) (mi : Bool) (m0 : Int32)  (hx0 : M x = some (.inr (8, [.ref J, .ref P]))) (hJD : jdW cA M J TG GO SG BG TM SM)  : MC l D cA yX8_lostUpTo wsX8_lostUpTo 4 114 3 123 [.ref x, .int g, .int (bI mi), .int m0] M (fun r M' => r = some (.int (luV g mi m0)) ∧ jdW cA M' J TG GO SG BG TM SM ∧ kpL M M' [TM]) := by
  refine MC.of (cc := cX8_lostUpTo) (maxL := 4) (ret := (some .int)) (by decide) rfl (Nat.le_of_ble_eq_true rfl) ?_
  intro p e s m args below meth c Q ls B hh hl hretv hreti hretz hretl hreta
  obtain ⟨hx, hb, hown, hts, hml, hK, hin⟩ := B
  have hM := hh.1
  have hM_0 := hh.1
  have hkp : kpL M M [TM] := kpL.rf M _
  have hown : s.vm.findClass RX8 = some m.cls := hown
  have hl : lv_has ls 4 [(0, .ref x), (1, .int g), (2, .int (bI mi)), (3, .int m0)] := hl
  have in_X8 : ∀ w ∈ wsX80, w ∈ wsX8_lostUpTo := by decide +kernel
  have fl_10 := hts (.fieldLink RX8 10 "GoldHeaps" "judge" "LGoldHeaps$Judge;") (by decide +kernel)
  obtain ⟨⟨hj, hsg, hbg, hG0⟩, hT, hW0, hX0⟩ := id hJD
  obtain ⟨ft0, hTM, -⟩ := id hX0
  refine lv_iload_n hx hb dX8_lostUpTo_0 rfl (lv_at hl 3 rfl) ?_
  refine lv_i2l hx hb dX8_lostUpTo_1 rfl ?_
  refine lv_lconst (v := 1) hx hb dX8_lostUpTo_2 (by decide) ?_
  refine lv_iload_n hx hb dX8_lostUpTo_3 rfl (lv_at hl 1 rfl) ?_
  refine cpS (As := [.int g]) (rest := [.long 1, .long ((m0).toInt64)]) (k_X8_mostByAll l D cA _ g) ⟨hx, hb, hml, hown, hts⟩ (va_cwS 1 hts gX8_lostUpTo_X8_mostByAll rfl rfl rfl (by decide +kernel) ⟨by decide, by decide⟩) hK hM rfl hl.1 rfl (Nat.le_of_ble_eq_true rfl) dX8_lostUpTo_4 ⟨by decide, by decide⟩ ?_
  refine lv_i2l hx hb dX8_lostUpTo_7 rfl ?_
  refine cpS (As := [.long ((m0).toInt64), .long 1, .long ((mostI g).toInt64)]) (rest := []) (k_X8_isWithin l D cA _ (m0.toInt64) 1 (mostI g).toInt64) ⟨hx, hb, hml, hown, hts⟩ (va_cwS 3 hts gX8_lostUpTo_X8_isWithin rfl rfl rfl (by decide +kernel) ⟨by decide, by decide⟩) hK hM rfl hl.1 rfl (Nat.le_of_ble_eq_true rfl) dX8_lostUpTo_8 ⟨by decide, by decide⟩ ?_
  refine bz_ne (tgt := 17) hx hb dX8_lostUpTo_11 (by decide) (fun c_11 n_11 => ?_) (fun c_11 n_11 => ?_)
  · skip
    have h1 := bI_ne0 c_11
    have hgm : nB g = 0 ∧ g = nI 0 ∧ mostI g = 60 ∨ nB g = 1 ∧ g = nI 1 ∧ mostI g = 60 ∨ nB g = 3 ∧ g = nI 3 ∧ mostI g = 10 := by
      by_cases e0 : g = 0
      · subst e0; exact Or.inl (by decide)
      · by_cases e1 : g = 1
        · subst e1; exact Or.inr (Or.inl (by decide))
        · by_cases e3 : g = 3
          · subst e3; exact Or.inr (Or.inr (by decide))
          · have e9 : mostI g = -1 := by unfold mostI; rw [if_neg e0, if_neg e1, if_neg e3]
            rw [e9] at h1
            obtain ⟨q1, q2⟩ := inW_t h1
            exact absurd (Int64.le_trans q1 q2) (by decide)
    have hmm : m0 = nI (nB m0) ∧ nB m0 ≤ 60 ∧ (nB g = 3 → nB m0 ≤ 10) := by
      rcases hgm with q | q | q
      · rw [q.2.2] at h1; have qa := in_i32 (a := 1) (b := 60) (by decide) h1 (by decide); exact ⟨qa.1, qa.2.2, fun z => by omega⟩
      · rw [q.2.2] at h1; have qa := in_i32 (a := 1) (b := 60) (by decide) h1 (by decide); exact ⟨qa.1, qa.2.2, fun z => by omega⟩
      · rw [q.2.2] at h1; have qa := in_i32 (a := 1) (b := 10) (by decide) h1 (by decide); exact ⟨qa.1, by omega, fun _ => qa.2.2⟩
    obtain ⟨em, lm60, hm3⟩ := hmm
    have hgc : nB g = 0 ∨ nB g = 1 ∨ nB g = 3 := by omega
    have eg : g = nI (nB g) := by rcases hgm with q | q | q <;> rw [q.1] <;> exact q.2.1
    refine lv_aload_n hx hb dX8_lostUpTo_17 rfl (lv_at hl 0 rfl) ?_
    refine m_get (ci := 8) (C := RX8) (T := TX8) (N := 2) (v := .ref J) hx hb hts in_X8 hown hK hM hx0 rfl 0 (by decide) fl_10 (fun _ h => h) rfl dX8_lostUpTo_18 ?_
    refine lv_iload_n hx hb dX8_lostUpTo_21 rfl (lv_at hl 1 rfl) ?_
    refine lv_iload_n hx hb dX8_lostUpTo_22 rfl (lv_at hl 2 rfl) ?_
    refine cmV (As := [.int g, .int (bI mi)]) (rest := []) (by have h9 := k_X2_tableOfG l D cA _ (nB g) J TG GO SG BG TM mi hgc hj hX0; rw [← eg] at h9; exact h9) ⟨hx, hb, hml, hown, hts⟩ (cwV 2 hts gX8_lostUpTo_X2_tableOf rfl rfl rfl (by decide +kernel) ⟨by decide, by decide⟩) hK hh hj rfl rfl hl.1 rfl (Nat.le_of_ble_eq_true rfl) dX8_lostUpTo_23 ⟨by decide, by decide⟩ (fun v9 M1 H1 locs1 hpost hh hz9 hk9 hn9 => ?_)
    obtain ⟨⟨sa, rfl, htab⟩, hX1, hkc⟩ := hpost
    have hJ1 : jdW cA M1 J TG GO SG BG TM SM := ⟨hJD.1.kp (kpI.of1 hkc hTM (fun z => z)), (kpI.of1 hkc hTM (fun z => z)) _ _ hT ⟨by decide, by decide⟩, hW0.kT hX0 hkc, hX1⟩
    obtain ⟨o3, la, hsa1⟩ := htab.obj
    have hsa : M1 sa = some (.inr (3, [.int o3, .ref la])) := hsa1
    have hkp := hkp.call hkc (by simp)
    have hM := hh.1
    refine W.widen (k := 3) (n := 123) (by decide) (by decide) ?_
    refine W.eq (g2 := F0 m 26 ls [.ref sa]) rfl ?_
    refine lv_iload_n hx hb dX8_lostUpTo_26 rfl (lv_at hl 3 rfl) ?_
    refine cpV (As := [.int m0]) (rest := []) (by have h9 := k_X3_countG l D cA _ (nB g) mi sa (nB m0) hgc htab lm60 hm3; rw [← em] at h9; exact h9) ⟨hx, hb, hml, hown, hts⟩ (cwV 1 hts gX8_lostUpTo_X3_countUpTo rfl rfl rfl (by decide +kernel) ⟨by decide, by decide⟩) hK hM hsa rfl rfl hl.1 rfl (Nat.le_of_ble_eq_true rfl) dX8_lostUpTo_27 ⟨by decide, by decide⟩ ?_
    exact hreti _ _ _ _ _ _ _ _ hh (⟨by unfold luV; rw [if_pos h1], hJ1, hkp⟩) (by decide) (by decide) dX8_lostUpTo_30 rfl
  · skip
    have h1 := bI_eq0 c_11
    refine lv_bipush (v := (-2)) hx hb dX8_lostUpTo_14 (by decide) ?_
    exact hreti _ _ _ _ _ _ _ _ hh (⟨by simp [luV, h1], hJD, hkp⟩) (by decide) (by decide) dX8_lostUpTo_16 rfl
set_option maxHeartbeats 1000000 in
set_option maxRecDepth 100000 in
theorem k_X7_isWonByAll (l : Launch) (D : va_G) (cA : Nat → ClassId) (M : mp) (t n b : Nat)  (ht1 : 1 ≤ t) (ht9 : t ≤ 9) (hn : n ≤ 60) (hb0 : b ≤ 60)  : MC l D cA yX7_isWonByAll wsX7_isWonByAll 1 25 1 61 [.int (nI t), .int (nI n), .int (nI b)] M (fun r M' => r = some (.int (bI (tbF t n b))) ∧ kpL M M' []) := by
  refine MC.of (cc := cX7_isWonByAll) (maxL := 6) (ret := (some .boolean)) (by decide) rfl (Nat.le_of_ble_eq_true rfl) ?_
  intro p e s m args below meth c Q ls B hh hl hretv hreti hretz hretl hreta
  obtain ⟨hx, hb, hown, hts, hml, hK, hin⟩ := B
  have hM := hh.1
  have hM_0 := hh.1
  have hkp : kpL M M [] := kpL.rf M _
  have hown : s.vm.findClass RX7 = some m.cls := hown
  have hl : lv_has ls 6 [(0, .int (nI t)), (1, .int (nI n)), (2, .int (nI b))] := hl
  have ac_int := hts (.arrayClass .int) (by decide +kernel)
  have cst_32 := hts (.constantLong RX7 32 (60)) (by decide +kernel)
  have nl_34 := hK.2.1 (.methodLinkNest RX7 34 yX8_isWithin "GoldHeaps") (by decide +kernel)
  have ni_X8 := hts (.initialized RX8) (by decide +kernel)
  have ns_34 := hts (.static yX8_isWithin) (by decide +kernel)
  have hin60 : inW (nI n).toInt64 0 60 = true := by unfold inW; rw [nI_l (by omega), l_0, show (60 : Int64) = lN 60 from rfl, decide_eq_true ((ln_le (by decide) (by omega)).mpr (Nat.zero_le n)), decide_eq_true ((ln_le (by omega) (by decide)).mpr hn)]; rfl
  refine lv_bipush (v := 61) hx hb dX7_isWonByAll_0 (by decide) ?_
  have hho := hh
  refine m_newa 1 rfl (atype := .int) hx hb (ty := .int) ac_int rfl hK hh (N' := 61) (a0 := (61, (.inl (fun _ => (0 : Int32))))) (cellI0 61) (by decide +kernel) (by decide +kernel) (by decide +kernel) (Nat.le_of_ble_eq_true rfl) (Nat.le_of_ble_eq_true rfl) dX7_isWonByAll_2 (fun la M1 H1 hq e1 hh => ?_)
  have hkp := hkp.new hM hq e1
  have hf_la : M la = none := by rw [hq]; exact hho.new0 hM_0
  have hla := mu_at e1
  have hla : M1 la = some (.inl (cA 1, 61, .inl (fun _ => (0 : Int32)))) := hla
  have hM := hh.1
  refine W.widen (k := 1) (n := 61) (by decide) (by decide) ?_
  refine lv_astore_n (lv' := [(3, .ref la), (0, .int (nI t)), (1, .int (nI n)), (2, .int (nI b))]) hx hb dX7_isWonByAll_4 rfl hl (by decide) rfl (fun ls hl => ?_)
  refine lv_aload_n hx hb dX7_isWonByAll_5 rfl (lv_at hl 0 rfl) ?_
  refine lv_iconst (v := 0) hx hb dX7_isWonByAll_6 (by decide) ?_
  refine lv_sipush (v := 541) hx hb dX7_isWonByAll_7 (by decide) ?_
  refine m_iastN (k := 0) hx hb hK hh hla (rfl) (by decide) (by decide) dX7_isWonByAll_10 (fun M1 H1 locs1 e1 hh => ?_)
  have hla := mu_at e1
  have hkp := hkp.putN e1 hf_la
  have hla : M1 la = some (.inl (cA 1, 61, .inl (upd (fun _ => (0 : Int32)) 0 541))) := hla
  have hM := hh.1
  refine lv_iconst (v := 1) hx hb dX7_isWonByAll_11 (by decide) ?_
  refine tpi (x' := nI 1) (rfl) ?_
  refine lv_istore (lv' := [(4, .int (nI 1)), (3, .ref la), (0, .int (nI t)), (1, .int (nI n)), (2, .int (nI b))]) hx hb dX7_isWonByAll_12 hl (by decide) rfl (fun ls hl => ?_)
  have j_14 : ∀ (fu : Nat) (h : Nat) (f : Nat → Int32) (M1 : mp) (H : Heap) (locs : List Loc) (ls : Array Slot), (1 ≤ h) → (h ≤ n + 1) → (∀ j, j < h → f j = nI (leN t j)) → (M la = none) → (hw D M s.heap M1 H locs) → (kpL M M1 []) → (M1 la = some (.inl (cA 1, 61, .inl f))) → (62 - h < fu) → lv_has ls 6 [(0, .int (nI t)), (1, .int (nI n)), (2, .int (nI b)), (3, .ref la), (4, .int (nI h))] → W p l e ({ frames := 1, cells := 1, slots := 61, locals := 25 } : Room) s m args below meth c H locs 1 61 Q (F0 m 14 ls []) := by
    intro fu
    induction fu with
    | zero => intro h f M1 H locs ls hh1 hhn hf hf_la hh hkp hla hm_14 _; exact absurd hm_14 (Nat.not_lt_zero _)
    | succ fu ih_14 =>
      intro h f M1 H locs ls hh1 hhn hf hf_la hh hkp hla hm_14 hl
      have hM := hh.1
      refine lv_iload hx hb dX7_isWonByAll_14 (lv_at hl 4 rfl) ?_
      refine lv_iload_n hx hb dX7_isWonByAll_16 rfl (lv_at hl 1 rfl) ?_
      refine bi_gt (tgt := 69) hx hb dX7_isWonByAll_17 (by decide) (fun c_17 n_17 => ?_) (fun c_17 n_17 => ?_)
      · skip
        have hgt : n < h := (nI_ltI (by omega) (by omega)).mp c_17
        have ehn : h = n + 1 := by omega
        refine lv_iload_n hx hb dX7_isWonByAll_69 rfl (lv_at hl 1 rfl) ?_
        refine lv_i2l hx hb dX7_isWonByAll_70 rfl ?_
        refine lv_lconst (v := 0) hx hb dX7_isWonByAll_71 (by decide) ?_
        refine lv_ldc2 hx hb hown cst_32 dX7_isWonByAll_72 ?_
        refine cpSN (As := [.long ((nI n).toInt64), .long 0, .long 60]) (rest := []) (k_X8_isWithin l D cA _ (nI n).toInt64 0 60) ⟨hx, hb, hml, hown, hts⟩ ⟨va_cnB 3 hts gX7_isWonByAll_X8_isWithin_n34 rfl rfl rfl nl_34 ni_X8 (by decide +kernel) ⟨by decide, by decide⟩, ns_34, trivial⟩ hK hM rfl hl.1 rfl (Nat.le_of_ble_eq_true rfl) dX7_isWonByAll_75 ⟨by decide, by decide⟩ ?_
        refine bz_eq (tgt := 92) hx hb dX7_isWonByAll_78 (by decide) (fun c_78 n_78 => ?_) (fun c_78 n_78 => ?_)
        · exact absurd c_78 (by rw [show inW (nI n).toInt64 0 60 = true from hin60]; decide)
        · skip
          have hd := le_d t (by omega) ht1 n (by omega)
          refine lv_iload_n hx hb dX7_isWonByAll_81 rfl (lv_at hl 2 rfl) ?_
          refine lv_aload_n hx hb dX7_isWonByAll_82 rfl (lv_at hl 3 rfl) ?_
          refine lv_iload_n hx hb dX7_isWonByAll_83 rfl (lv_at hl 1 rfl) ?_
          refine m_ialdN (k := n) hx hb hK hM hla (rfl) (by omega) (by decide) dX7_isWonByAll_84 ?_
          refine tpi (x' := nI (leN t n)) (hf n (by omega)) ?_
          refine bi_lt (tgt := 92) hx hb dX7_isWonByAll_85 (by decide) (fun c_85 n_85 => ?_) (fun c_85 n_85 => ?_)
          · skip
            have hbl : ¬ leN t n ≤ b := fun z => absurd ((nI_ltI (by omega) (by omega)).mp c_85) (by omega)
            refine lv_iconst (v := 0) hx hb dX7_isWonByAll_92 (by decide) ?_
            exact hretz _ _ _ _ _ _ _ _ (tbF t n b) hh (by unfold tbF; rw [decide_eq_false hbl]; rfl) (⟨rfl, hkp⟩) (by decide) (by decide) dX7_isWonByAll_93 rfl
          · skip
            have hbl : leN t n ≤ b := (nI_leI (by omega) (by omega)).mp c_85
            refine lv_iconst (v := 1) hx hb dX7_isWonByAll_88 (by decide) ?_
            refine lv_goto (tgt := 93) hx hb dX7_isWonByAll_89 (by decide) ?_
            exact hretz _ _ _ _ _ _ _ _ (tbF t n b) hh (by unfold tbF; rw [decide_eq_true hbl]; rfl) (⟨rfl, hkp⟩) (by decide) (by decide) dX7_isWonByAll_93 rfl
      · skip
        have hle : h ≤ n := (nI_leI (by omega) (by omega)).mp c_17
        refine lv_iload hx hb dX7_isWonByAll_20 (lv_at hl 4 rfl) ?_
        refine lv_bipush (v := 60) hx hb dX7_isWonByAll_22 (by decide) ?_
        refine bi_gt (tgt := 69) hx hb dX7_isWonByAll_24 (by decide) (fun c_24 n_24 => ?_) (fun c_24 n_24 => ?_)
        · exact absurd ((nI_ltI (a := 60) (by decide) (by omega)).mp c_24) (by omega)
        · skip
          have hla1 := le_a t (by omega) ht1 h (by omega) hh1
          refine lv_iconst (v := 1) hx hb dX7_isWonByAll_27 (by decide) ?_
          refine tpi (x' := nI 1) (rfl) ?_
          refine lv_istore (lv' := [(5, .int (nI 1)), (0, .int (nI t)), (1, .int (nI n)), (2, .int (nI b)), (3, .ref la), (4, .int (nI h))]) hx hb dX7_isWonByAll_28 hl (by decide) rfl (fun ls hl => ?_)
          have j_30 : ∀ (fu : Nat) (k : Nat) (ls : Array Slot), (1 ≤ k) → (k ≤ leN t h) → (leN t h - k < fu) → lv_has ls 6 [(0, .int (nI t)), (1, .int (nI n)), (2, .int (nI b)), (3, .ref la), (4, .int (nI h)), (5, .int (nI k))] → W p l e ({ frames := 1, cells := 1, slots := 61, locals := 25 } : Room) s m args below meth c H locs 1 61 Q (F0 m 30 ls []) := by
            intro fu
            induction fu with
            | zero => intro k ls hk1 hk2 hm_30 _; exact absurd hm_30 (Nat.not_lt_zero _)
            | succ fu ih_30 =>
              intro k ls hk1 hk2 hm_30 hl
              have htk : t * k ≤ 9 * 60 := Nat.mul_le_mul ht9 (by omega)
              refine lv_iload hx hb dX7_isWonByAll_30 (lv_at hl 5 rfl) ?_
              refine lv_iload hx hb dX7_isWonByAll_32 (lv_at hl 4 rfl) ?_
              refine bi_ge (tgt := 57) hx hb dX7_isWonByAll_34 (by decide) (fun c_34 n_34 => ?_) (fun c_34 n_34 => ?_)
              · skip
                have hk3 : h ≤ k := (nI_leI (by omega) (by omega)).mp c_34
                have hk0 : k = leN t h := by omega
                refine lv_aload_n hx hb dX7_isWonByAll_57 rfl (lv_at hl 3 rfl) ?_
                refine lv_iload hx hb dX7_isWonByAll_58 (lv_at hl 4 rfl) ?_
                refine lv_iload hx hb dX7_isWonByAll_60 (lv_at hl 5 rfl) ?_
                refine m_iastN (k := h) hx hb hK hh hla (rfl) (by omega) (by decide) dX7_isWonByAll_62 (fun M1 H1 locs1 e1 hh => ?_)
                have hla := mu_at e1
                have hkp := hkp.putN e1 hf_la
                have hla : M1 la = some (.inl (cA 1, 61, .inl (upd f h (nI k)))) := hla
                have hM := hh.1
                refine lv_iinc (v := nI (h + 1)) (lv' := [(4, .int (nI (h + 1))), (0, .int (nI t)), (1, .int (nI n)), (2, .int (nI b)), (3, .ref la), (5, .int (nI k))]) hx hb dX7_isWonByAll_63 hl (k := 4) rfl (nI_up h) (by decide) rfl (fun ls hl => ?_)
                refine lv_goto (tgt := 14) hx hb dX7_isWonByAll_66 (by decide) ?_
                exact ih_14 (h + 1) ((upd f h (nI k))) _ _ _ _ (by omega) (by omega) (fun j hj => by by_cases e : j = h; (rw [e, pk_us, hk0]); (rw [pk_un e]; exact hf j (by omega))) hf_la hh hkp hla (by omega) (lv_sub hl [1, 2, 3, 4, 0] rfl)
              · skip
                have hk3 : k < h := (nI_ltI (by omega) (by omega)).mp c_34
                have hd := le_d t (by omega) ht1 (h - k) (by omega)
                refine lv_aload_n hx hb dX7_isWonByAll_37 rfl (lv_at hl 3 rfl) ?_
                refine lv_iload hx hb dX7_isWonByAll_38 (lv_at hl 4 rfl) ?_
                refine lv_iload hx hb dX7_isWonByAll_40 (lv_at hl 5 rfl) ?_
                refine lv_isub hx hb dX7_isWonByAll_42 ?_
                refine m_ialdN (k := h - k) hx hb hK hM hla (nI_sub (by omega)) (by omega) (by decide) dX7_isWonByAll_43 ?_
                refine tpi (x' := nI (leN t (h - k))) (hf (h - k) (by omega)) ?_
                refine lv_iload_n hx hb dX7_isWonByAll_44 rfl (lv_at hl 0 rfl) ?_
                refine lv_iload hx hb dX7_isWonByAll_45 (lv_at hl 5 rfl) ?_
                refine lv_imul hx hb dX7_isWonByAll_47 ?_
                refine tpi (x' := nI (t * k)) (pk_mul t k) ?_
                refine bi_gt (tgt := 57) hx hb dX7_isWonByAll_48 (by decide) (fun c_48 n_48 => ?_) (fun c_48 n_48 => ?_)
                · skip
                  have hg7 : t * k < leN t (h - k) := (nI_ltI (by omega) (by omega)).mp c_48
                  have hk0 : k = leN t h := by rcases Nat.lt_or_ge k (leN t h) with q | q; (have := le_b t (by omega) ht1 h (by omega) k q (by omega) hk1; omega); omega
                  refine lv_aload_n hx hb dX7_isWonByAll_57 rfl (lv_at hl 3 rfl) ?_
                  refine lv_iload hx hb dX7_isWonByAll_58 (lv_at hl 4 rfl) ?_
                  refine lv_iload hx hb dX7_isWonByAll_60 (lv_at hl 5 rfl) ?_
                  refine m_iastN (k := h) hx hb hK hh hla (rfl) (by omega) (by decide) dX7_isWonByAll_62 (fun M1 H1 locs1 e1 hh => ?_)
                  have hla := mu_at e1
                  have hkp := hkp.putN e1 hf_la
                  have hla : M1 la = some (.inl (cA 1, 61, .inl (upd f h (nI k)))) := hla
                  have hM := hh.1
                  refine lv_iinc (v := nI (h + 1)) (lv' := [(4, .int (nI (h + 1))), (0, .int (nI t)), (1, .int (nI n)), (2, .int (nI b)), (3, .ref la), (5, .int (nI k))]) hx hb dX7_isWonByAll_63 hl (k := 4) rfl (nI_up h) (by decide) rfl (fun ls hl => ?_)
                  refine lv_goto (tgt := 14) hx hb dX7_isWonByAll_66 (by decide) ?_
                  exact ih_14 (h + 1) ((upd f h (nI k))) _ _ _ _ (by omega) (by omega) (fun j hj => by by_cases e : j = h; (rw [e, pk_us, hk0]); (rw [pk_un e]; exact hf j (by omega))) hf_la hh hkp hla (by omega) (lv_sub hl [1, 2, 3, 4, 0] rfl)
                · skip
                  have hg7 : leN t (h - k) ≤ t * k := (nI_leI (by omega) (by omega)).mp c_48
                  have hk4 : k < leN t h := by rcases Nat.lt_or_ge k (leN t h) with q | q; exact q; (have e : k = leN t h := (by omega)); have := le_c t (by omega) ht1 h (by omega) (by omega); rw [← e] at this; omega
                  refine lv_iinc (v := nI (k + 1)) (lv' := [(5, .int (nI (k + 1))), (0, .int (nI t)), (1, .int (nI n)), (2, .int (nI b)), (3, .ref la), (4, .int (nI h))]) hx hb dX7_isWonByAll_51 hl (k := 5) rfl (nI_up k) (by decide) rfl (fun ls hl => ?_)
                  refine lv_goto (tgt := 30) hx hb dX7_isWonByAll_54 (by decide) ?_
                  exact ih_30 (k + 1) _ (by omega) (by omega) (by omega) (lv_sub hl [1, 2, 3, 4, 5, 0] rfl)
          exact j_30 (leN t h + 1) 1 _ (by omega) hla1.1 (by omega) (lv_sub hl [1, 2, 3, 4, 5, 0] rfl)
  exact j_14 (63) 1 ((upd (fun _ => (0 : Int32)) 0 541)) _ _ _ _ (by omega) (by omega) (fun j hj => by rw [show j = 0 by omega, pk_us, le_0 t (by omega) ht1]; rfl) hf_la hh hkp hla (by omega) (lv_sub hl [2, 3, 4, 1, 0] rfl)
set_option maxHeartbeats 1000000 in
set_option maxRecDepth 100000 in
theorem k_X8_timesByAll (l : Launch) (D : va_G) (cA : Nat → ClassId) (M : mp) (x0 : Nat) (x n b : Int32)   : MC l D cA yX8_timesByAll wsX8_timesByAll 2 50 1 61 [.ref x0, .int x, .int n, .int b] M (fun r M' => r = some (.int (tbV x n b)) ∧ kpL M M' []) := by
  refine MC.of (cc := cX8_timesByAll) (maxL := 4) (ret := (some .int)) (by decide) rfl (Nat.le_of_ble_eq_true rfl) ?_
  intro p e s m args below meth c Q ls B hh hl hretv hreti hretz hretl hreta
  obtain ⟨hx, hb, hown, hts, hml, hK, hin⟩ := B
  have hM := hh.1
  have hM_0 := hh.1
  have hkp : kpL M M [] := kpL.rf M _
  have hown : s.vm.findClass RX8 = some m.cls := hown
  have hl : lv_has ls 4 [(0, .ref x0), (1, .int x), (2, .int n), (3, .int b)] := hl
  have cst_142 := hts (.constantLong RX8 142 (60)) (by decide +kernel)
  refine lv_iload_n hx hb dX8_timesByAll_0 rfl (lv_at hl 1 rfl) ?_
  refine lv_i2l hx hb dX8_timesByAll_1 rfl ?_
  refine cpS (As := [.long ((x).toInt64)]) (rest := []) (k_X8_isFactor l D cA _ x.toInt64) ⟨hx, hb, hml, hown, hts⟩ (va_cwS 1 hts gX8_timesByAll_X8_isFactor rfl rfl rfl (by decide +kernel) ⟨by decide, by decide⟩) hK hM rfl hl.1 rfl (Nat.le_of_ble_eq_true rfl) dX8_timesByAll_2 ⟨by decide, by decide⟩ ?_
  refine bz_eq (tgt := 32) hx hb dX8_timesByAll_5 (by decide) (fun c_5 n_5 => ?_) (fun c_5 n_5 => ?_)
  · skip
    have h1 := bI_eq0 c_5
    refine lv_bipush (v := (-2)) hx hb dX8_timesByAll_32 (by decide) ?_
    exact hreti _ _ _ _ _ _ _ _ hh (⟨by simp [tbV, h1], hkp⟩) (by decide) (by decide) dX8_timesByAll_34 rfl
  · skip
    have h1 := bI_ne0 c_5
    refine lv_iload_n hx hb dX8_timesByAll_8 rfl (lv_at hl 2 rfl) ?_
    refine lv_i2l hx hb dX8_timesByAll_9 rfl ?_
    refine lv_lconst (v := 0) hx hb dX8_timesByAll_10 (by decide) ?_
    refine lv_ldc2 hx hb hown cst_142 dX8_timesByAll_11 ?_
    refine cpS (As := [.long ((n).toInt64), .long 0, .long 60]) (rest := []) (k_X8_isWithin l D cA _ (n.toInt64) 0 60) ⟨hx, hb, hml, hown, hts⟩ (va_cwS 3 hts gX8_timesByAll_X8_isWithin rfl rfl rfl (by decide +kernel) ⟨by decide, by decide⟩) hK hM rfl hl.1 rfl (Nat.le_of_ble_eq_true rfl) dX8_timesByAll_14 ⟨by decide, by decide⟩ ?_
    refine bz_eq (tgt := 32) hx hb dX8_timesByAll_17 (by decide) (fun c_17 n_17 => ?_) (fun c_17 n_17 => ?_)
    · skip
      have h2 := bI_eq0 c_17
      refine lv_bipush (v := (-2)) hx hb dX8_timesByAll_32 (by decide) ?_
      exact hreti _ _ _ _ _ _ _ _ hh (⟨by simp [tbV, h1, h2], hkp⟩) (by decide) (by decide) dX8_timesByAll_34 rfl
    · skip
      have h2 := bI_ne0 c_17
      refine lv_iload_n hx hb dX8_timesByAll_20 rfl (lv_at hl 3 rfl) ?_
      refine lv_i2l hx hb dX8_timesByAll_21 rfl ?_
      refine lv_lconst (v := 0) hx hb dX8_timesByAll_22 (by decide) ?_
      refine lv_ldc2 hx hb hown cst_142 dX8_timesByAll_23 ?_
      refine cpS (As := [.long ((b).toInt64), .long 0, .long 60]) (rest := []) (k_X8_isWithin l D cA _ (b.toInt64) 0 60) ⟨hx, hb, hml, hown, hts⟩ (va_cwS 3 hts gX8_timesByAll_X8_isWithin rfl rfl rfl (by decide +kernel) ⟨by decide, by decide⟩) hK hM rfl hl.1 rfl (Nat.le_of_ble_eq_true rfl) dX8_timesByAll_26 ⟨by decide, by decide⟩ ?_
      refine bz_ne (tgt := 35) hx hb dX8_timesByAll_29 (by decide) (fun c_29 n_29 => ?_) (fun c_29 n_29 => ?_)
      · skip
        have h3 := bI_ne0 c_29
        obtain ⟨ex, x1, x9⟩ := by_of h1
        obtain ⟨en, -, ln⟩ := in_i32 (a := 0) (b := 60) (by decide) h2 (by decide)
        obtain ⟨eb, -, lb⟩ := in_i32 (a := 0) (b := 60) (by decide) h3 (by decide)
        refine lv_iload_n hx hb dX8_timesByAll_35 rfl (lv_at hl 1 rfl) ?_
        refine lv_iload_n hx hb dX8_timesByAll_36 rfl (lv_at hl 2 rfl) ?_
        refine lv_iload_n hx hb dX8_timesByAll_37 rfl (lv_at hl 3 rfl) ?_
        refine cmS (As := [.int x, .int n, .int b]) (rest := []) (by have h9 := k_X7_isWonByAll l D cA M (nB x) (nB n) (nB b) x1 x9 ln lb; rw [← ex, ← en, ← eb] at h9; exact h9) ⟨hx, hb, hml, hown, hts⟩ (va_cwS 3 hts gX8_timesByAll_X7_isWonByAll rfl rfl rfl (by decide +kernel) ⟨by decide, by decide⟩) hK hh rfl hl.1 rfl (Nat.le_of_ble_eq_true rfl) dX8_timesByAll_38 ⟨by decide, by decide⟩ (fun v9 M1 H1 locs1 hpost hh hz9 hk9 hn9 => ?_)
        obtain ⟨rfl, hkc⟩ := hpost
        have hkp := hkp.call hkc (by simp)
        have hM := hh.1
        refine W.widen (k := 1) (n := 61) (by decide) (by decide) ?_
        refine W.eq (g2 := F0 m 41 ls [.int (bI (tbF (nB x) (nB n) (nB b)))]) rfl ?_
        refine cpS (As := [.int (bI (tbF (nB x) (nB n) (nB b)))]) (rest := []) (k_X8_oneIf l D cA _ (tbF (nB x) (nB n) (nB b))) ⟨hx, hb, hml, hown, hts⟩ (va_cwS 1 hts gX8_timesByAll_X8_oneIf rfl rfl rfl (by decide +kernel) ⟨by decide, by decide⟩) hK hM rfl hl.1 rfl (Nat.le_of_ble_eq_true rfl) dX8_timesByAll_41 ⟨by decide, by decide⟩ ?_
        exact hreti _ _ _ _ _ _ _ _ hh (⟨by unfold tbV; rw [show byB x = true from h1, h2, h3, if_pos t3], hkp⟩) (by decide) (by decide) dX8_timesByAll_44 rfl
      · skip
        have h3 := bI_eq0 c_29
        refine lv_bipush (v := (-2)) hx hb dX8_timesByAll_32 (by decide) ?_
        exact hreti _ _ _ _ _ _ _ _ hh (⟨by simp [tbV, h1, h2, h3], hkp⟩) (by decide) (by decide) dX8_timesByAll_34 rfl
