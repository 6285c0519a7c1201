theorem w10 {x : Int64} (h : inW x 0 10 = true) : x = lN (nL x) ∧ nL x ≤ 10 := hp_of (K := 10) rfl (by decide) h
theorem w60 {x : Int64} (h : inW x 0 60 = true) : x = lN (nL x) ∧ nL x ≤ 60 := hp_of (K := 60) rfl (by decide) h
theorem w19 {x : Int64} (h : inW x 1 9 = true) : x = lN (nL x) ∧ 1 ≤ nL x ∧ nL x ≤ 9 := by
  obtain ⟨h1, h2⟩ := inW_t h
  have h0 : inW x 0 9 = true := by
    unfold inW
    simp only [Bool.and_eq_true, decide_eq_true_eq]
    exact ⟨Int64.le_trans (by decide) h1, h2⟩
  obtain ⟨e, hb⟩ := hp_of (K := 9) rfl (by decide) h0
  refine ⟨e, ?_, hb⟩
  rw [e, l_1] at h1
  exact (ln_le (by decide) (by omega)).mp h1
/-- what a BOARD begins with -/
theorem ah_ok {g : Int32} {mi : Bool} {a b c : Int64} (h : ahF g mi a b c = true) : a = lN (nL a) ∧ b = lN (nL b) ∧ (nB g = 3 → c = lN (nL c)) ∧ okB (nB g) (if nB g = 2 then nL b else 0) mi (hv0 (nB g) (nL a) (nL b) (nL c)) := by
  obtain ⟨⟨eg, hg3⟩, hcs⟩ := ah_case h
  unfold okB hv0
  rcases hcs with ⟨q0, q1, q2⟩ | ⟨q0, q1, q2, q3⟩ | ⟨q0, q1, q2, q3⟩
  · have qa : a = lN (nL a) ∧ nL a ≤ 1000000000000 ∧ (mi = true → nL a ≤ 60) := by
      cases mi
      · have := hp_heap q1; exact ⟨this.1, this.2, fun z => by cases z⟩
      · have := w60 q1; exact ⟨this.1, by omega, fun _ => this.2⟩
    have qb : b = lN (nL b) ∧ nL b ≤ 1000000000000 ∧ (mi = true → nL b ≤ 60) := by
      cases mi
      · have := hp_heap q2; exact ⟨this.1, this.2, fun z => by cases z⟩
      · have := w60 q2; exact ⟨this.1, by omega, fun _ => this.2⟩
    refine ⟨qa.1, qb.1, fun z => by omega, hg3, fun k => ?_, by rw [if_neg (by omega)]; omega, fun z => by omega, fun z _ => ?_, fun z => by omega⟩
    · split
      · exact qa.2.1
      · split
        · split
          · omega
          · exact qb.2.1
        · split <;> omega
    · have h1 := qa.2.2 z
      have h2 := qb.2.2 z
      simp
      split <;> omega
  · have qa := hp_heap q2
    have qb := w19 q3
    refine ⟨qa.1, qb.1, fun z => by omega, hg3, fun k => ?_, by rw [if_pos q0]; omega, fun _ => ⟨by rw [if_pos q0]; exact qb.2.1, q1⟩, fun z _ => by omega, fun z => by omega⟩
    have qa2 := qa.2
    have qb2 := qb.2
    split
    · exact qa.2
    · split <;> (try split) <;> omega
  · have qa := w10 q1
    have qb := w10 q2
    have qc := w10 q3
    refine ⟨qa.1, qb.1, fun _ => qc.1, hg3, fun k => ?_, by rw [if_neg (by omega)]; omega, fun z => by omega, fun _ z => by omega, fun _ => ?_⟩
    · have qa2 := qa.2
      have qb2 := qb.2
      have qc2 := qc.2
      split
      · omega
      · split <;> (try split) <;> omega
    · simp
      refine ⟨qa.2, ?_, ?_⟩
      · rw [if_neg (by omega)]; exact qb.2
      · rw [if_pos q0]; exact qc.2
theorem mt_le {g mv : Nat} {hv : Nat → Nat} {bd w n : Nat} (hw : w < wyF g) (hg : g ≤ 3) (h : mtP g mv hv bd w n) (hb : ∀ k, hv k ≤ 1000000000000) : n ≤ 1000000000000 := by
  rcases (show w < hcF g ∨ w = hcF g by unfold wyF hcF at *; split at hw <;> (try split at hw) <;> (try split at hw) <;> (try split) <;> (try split) <;> omega) with e | e
  · exact Nat.le_trans (h.2.1 w e (by unfold tkF; simp)) (hb w)
  · exact Nat.le_trans (h.2.1 0 (hcF_le g).1 (by unfold tkF; simp [e])) (hb 0)
theorem wy_le (g : Nat) : 1 ≤ wyF g ∧ wyF g ≤ 4 := by unfold wyF; split <;> (try split) <;> (try split) <;> omega
def dgF (f : Int32 → Int64) : Nat → Int64
  | 0 => 227
  | k + 1 => 31 * dgF f k + f (nI k)
theorem pw.kn {cA : Nat → ClassId} {M M' : mp} {P J PH WM MT WF g t mv : Nat} {mi : Bool} {hv wh ma : Nat → Nat} {fa : Nat → Bool} (h : pw cA M P J PH WM MT WF g t mv mi hv wh ma fa) (hk : kpL M M' []) : pw cA M' P J PH WM MT WF g t mv mi hv wh ma fa := by
  obtain ⟨fh, fw, fm, fz, h1, h2, h3, h4, h5, h6⟩ := h
  exact ⟨fh, fw, fm, fz, hk _ _ h1 (by simp), hk _ _ h2 (by simp), hk _ _ h3 (by simp), hk _ _ h4 (by simp), hk _ _ h5 (by simp), h6⟩
theorem jdW.kn {cA : Nat → ClassId} {M M' : mp} {J TG GO SG BG TM SM : Nat} (h : jdW cA M J TG GO SG BG TM SM) (hk : kpL M M' []) : jdW cA M' J TG GO SG BG TM SM := h.kp (kpI.of0 hk) (fun e he => hk SM e he (by simp)) (fun e he => hk TM e he (by simp))
