theorem bit_0n : chk2 (fun a b => bitI (tbI 0 false a) b == lsB 0 false a b) = true := by decide +kernel
theorem bit_0m : chk2 (fun a b => bitI (tbI 0 true a) b == lsB 0 true a b) = true := by decide +kernel
theorem bit_1n : chk2 (fun a b => bitI (tbI 1 false a) b == lsB 1 false a b) = true := by decide +kernel
theorem bit_1m : chk2 (fun a b => bitI (tbI 1 true a) b == lsB 1 true a b) = true := by decide +kernel
theorem bit_3 : ∀ mi : Bool, ∀ a, a < 11 → ∀ b, b < 11 → ∀ c, c < 11 → bitI (tbI 3 mi (11 * a + b)) c = ls3 mi a b c := by decide +kernel
theorem bit_2 {g : Nat} {mi : Bool} {a b : Nat} (hg : g ≤ 1) (ha : a ≤ 60) (hb : b ≤ 60) : bitI (tbI g mi a) b = lsB g mi a b := by
  rcases (show g = 0 ∨ g = 1 by omega) with e | e <;> subst e <;> cases mi
  · exact eq_of_beq (chk2_at bit_0n (by omega) (by omega))
  · exact eq_of_beq (chk2_at bit_0m (by omega) (by omega))
  · exact eq_of_beq (chk2_at bit_1n (by omega) (by omega))
  · exact eq_of_beq (chk2_at bit_1m (by omega) (by omega))
def lsG (g : Nat) (mi : Bool) (a b c : Nat) : Bool := if g = 3 then ls3 mi a b c else lsB g mi a b
def tabG (cA : Nat → ClassId) (M : mp) (g : Nat) (mi : Bool) (lt : Nat) : Prop := if g = 3 then tab3 cA M mi lt else tab2 cA M g mi lt
def cuG (g : Nat) (mi : Bool) (m : Nat) : Int32 := if g = 3 then cu3 mi m 121 else cu2 g mi m 61
/-- a PLACE is WON: TIMES, THREE, MISERE, SHARES, BOTH -/
def wnF (g : Nat) (mi : Bool) (t : Nat) (hv : Nat → Nat) (bd : Nat) : Bool := if g = 2 then tiF t (hv 0) bd else if g = 3 then !ls3 mi (hv 0) (hv 1) (hv 2) else if mi then !lsB g true (hv 0) (hv 1) else if g = 0 then shF (hv 0) (hv 1) else bothF (hv 0) (hv 1)
theorem tabG.obj {cA : Nat → ClassId} {M : mp} {g : Nat} {mi : Bool} {lt : Nat} (h : tabG cA M g mi lt) : ∃ (o : Int32) (la : Nat), M lt = some (.inr (3, [.int o, .ref la])) := by
  unfold tabG at h
  split at h
  · obtain ⟨la, f, h1, _⟩ := h; exact ⟨_, _, h1⟩
  · obtain ⟨la, f, h1, _⟩ := h; exact ⟨_, _, h1⟩
theorem tmW.kS {cA : Nat → ClassId} {M M' : mp} {SM TM : Nat} (h : tmW cA M TM) (hs : smW cA M SM) (hk : kpL M M' [SM]) : tmW cA M' TM := by
  obtain ⟨fs, hSM, -⟩ := hs
  obtain ⟨ft, hTM, -⟩ := id h
  exact h.kp (kpI.of1 hk hSM (fun z => z)) (fun e he => hk TM e he (ni1 (mp_ne hTM hSM (by simp))))
theorem smW.kT {cA : Nat → ClassId} {M M' : mp} {SM TM : Nat} (h : smW cA M SM) (hs : tmW cA M TM) (hk : kpL M M' [TM]) : smW cA M' SM := by
  obtain ⟨ft, hTM, -⟩ := hs
  obtain ⟨fs, hSM, -⟩ := id h
  exact h.kp (kpI.of1 hk hTM (fun z => z)) (fun e he => hk SM e he (ni1 (mp_ne hSM hTM (by simp))))
set_option maxRecDepth 100000 in
theorem k_X2_tableOfG (l : Launch) (D : va_G) (cA : Nat → ClassId) (M : mp) (g J TG GO SG BG TM : Nat) (mi : Bool) (hg : g = 0 ∨ g = 1 ∨ g = 3) (hj : M J = some (.inr (2, [.ref TG, .ref GO, .ref SG, .ref BG, .ref TM]))) (hW0 : tmW cA M TM) : MC l D cA yX2_tableOf wsX2_tableOf 3 90 3 123 [.ref J, .int (nI g), .int (bI mi)] M (fun r M' => (∃ a, r = some (.ref a) ∧ tabG cA M' g mi a) ∧ tmW cA M' TM ∧ kpL M M' [TM]) := by
  rcases hg with e | e | e <;> subst e
  · exact k_X2_tableOf0 l D cA M J TG GO SG BG TM mi hj hW0
  · exact k_X2_tableOf1 l D cA M J TG GO SG BG TM mi hj hW0
  · exact k_X2_tableOf3 l D cA M J TG GO SG BG TM mi hj hW0
theorem k_X3_hasG (l : Launch) (D : va_G) (cA : Nat → ClassId) (M : mp) (g : Nat) (mi : Bool) (lt a b c0 : Nat) (hg : g = 0 ∨ g = 1 ∨ g = 3) (h : tabG cA M g mi lt) (ha : g ≤ 1 → a ≤ 60 ∧ b ≤ 60) (h3 : g = 3 → a ≤ 10 ∧ b ≤ 10 ∧ c0 ≤ 10) : PC l D cA yX3_has wsX3_has 0 0 [.ref lt, .int (nI a), .int (nI b), .int (nI c0)] M (some (.int (bI (lsG g mi a b c0)))) := by
  unfold tabG at h
  unfold lsG
  rcases hg with e | e | e <;> subst e
  · have := ha (by decide)
    have h9 := k_X3_has2 l D cA M 0 mi lt a b (nI c0) h this.1 this.2
    rw [bit_2 (by decide) this.1 this.2] at h9
    exact h9
  · have := ha (by decide)
    have h9 := k_X3_has2 l D cA M 1 mi lt a b (nI c0) h this.1 this.2
    rw [bit_2 (by decide) this.1 this.2] at h9
    exact h9
  · have := h3 rfl
    have h9 := k_X3_has3 l D cA M mi lt a b c0 h this.1 this.2.1 this.2.2
    rw [bit_3 mi a (by omega) b (by omega) c0 (by omega)] at h9
    exact h9
theorem k_X3_countG (l : Launch) (D : va_G) (cA : Nat → ClassId) (M : mp) (g : Nat) (mi : Bool) (lt m0 : Nat) (hg : g = 0 ∨ g = 1 ∨ g = 3) (h : tabG cA M g mi lt) (ha : m0 ≤ 60) (h3 : g = 3 → m0 ≤ 10) : PC l D cA yX3_countUpTo wsX3_countUpTo 1 21 [.ref lt, .int (nI m0)] M (some (.int (cuG g mi m0))) := by
  unfold tabG at h
  unfold cuG
  rcases hg with e | e | e <;> subst e
  · exact k_X3_countUpTo2 l D cA M 0 mi lt m0 h ha
  · exact k_X3_countUpTo2 l D cA M 1 mi lt m0 h ha
  · exact k_X3_countUpTo3 l D cA M mi lt m0 h (h3 rfl)
/-- the play's cells: the heaps now, what was moved, how many, whether a fault -/
def pw (cA : Nat → ClassId) (M : mp) (P J PH WM MT WF g t mv : Nat) (mi : Bool) (hv wh ma : Nat → Nat) (fa : Nat → Bool) : Prop := ∃ (fh : Nat → Int64) (fw : Nat → Int32) (fm : Nat → Int64) (fz : Nat → Int32), M P = some (.inr (4, [.ref J, .ref PH, .ref WM, .ref MT, .ref WF, .int (nI g), .int (bI mi), .int (nI t), .int (nI mv)])) ∧ M PH = some (.inl (cA 0, 3, .inr (.inl fh))) ∧ M WM = some (.inl (cA 1, 200, .inl fw)) ∧ M MT = some (.inl (cA 0, 200, .inr (.inl fm))) ∧ M WF = some (.inl (cA 2, 200, .inl fz)) ∧ WM ≠ WF ∧ (∀ k, k < 3 → fh k = lN (hv k)) ∧ (∀ j, j < mv → fw j = nI (wh j)) ∧ (∀ j, j < mv → fm j = lN (ma j)) ∧ (∀ j, j < mv → fz j = bI (fa j))
theorem pw.kp {cA : Nat → ClassId} {M M' : mp} {P J PH WM MT WF g t mv : Nat} {mi : Bool} {hv wh ma : Nat → Nat} {fa : Nat → Bool} {SM TM : Nat} {fs ft : Nat → Option Nat} (h : pw cA M P J PH WM MT WF g t mv mi hv wh ma fa) (hs : M SM = some (.inl (cA 3, 10, .inr (.inr (.inr (.inr fs)))))) (ht : M TM = some (.inl (cA 4, 8, .inr (.inr (.inr (.inr ft)))))) (hk : kpL M M' [SM, TM]) : pw cA M' P J PH WM MT WF g t mv mi hv wh ma fa := by
  obtain ⟨fh, fw, fm, fz, h1, h2, h3, h4, h5, h6⟩ := h
  exact ⟨fh, fw, fm, fz, hk _ _ h1 (ni2 (mp_ne h1 hs (by simp)) (mp_ne h1 ht (by simp))), hk _ _ h2 (ni2 (mp_ne h2 hs (by simp)) (mp_ne h2 ht (by simp))), hk _ _ h3 (ni2 (mp_ne h3 hs (by simp)) (mp_ne h3 ht (by simp))), hk _ _ h4 (ni2 (mp_ne h4 hs (by simp)) (mp_ne h4 ht (by simp))), hk _ _ h5 (ni2 (mp_ne h5 hs (by simp)) (mp_ne h5 ht (by simp))), h6⟩
def hvT (g w n : Nat) (hv : Nat → Nat) : Nat → Nat := fun k => if k < hcF g ∧ tkF g w k = true then hv k - n else hv k
def hvB (g w n : Nat) (hv : Nat → Nat) : Nat → Nat := fun k => if k < hcF g ∧ tkF g w k = true then hv k + n else hv k
/-- what is small enough for the tables -/
def okB (g t : Nat) (mi : Bool) (hv : Nat → Nat) : Prop := g ≤ 3 ∧ (∀ k, hv k ≤ 1000000000000) ∧ t ≤ 9 ∧ (g = 2 → 1 ≤ t ∧ mi = false) ∧ (mi = true → g ≤ 1 → hv 0 ≤ 60 ∧ hv 1 ≤ 60) ∧ (g = 3 → hv 0 ≤ 10 ∧ hv 1 ≤ 10 ∧ hv 2 ≤ 10)
/-- the judge with its made sums and tables -/
def jdW (cA : Nat → ClassId) (M : mp) (J TG GO SG BG TM SM : Nat) : Prop := judW cA M J TG GO SG BG TM ∧ M TG = some (.inr (7, [.ref SM])) ∧ smW cA M SM ∧ tmW cA M TM
theorem jdW.kp {cA : Nat → ClassId} {M M' : mp} {J TG GO SG BG TM SM : Nat} (h : jdW cA M J TG GO SG BG TM SM) (hk : kpI M M') (hs : ∀ e, M SM = some e → M' SM = some e) (ht : ∀ e, M TM = some e → M' TM = some e) : jdW cA M' J TG GO SG BG TM SM := ⟨h.1.kp hk, hk _ _ h.2.1 ⟨by decide, by decide⟩, h.2.2.1.kp hk hs, h.2.2.2.kp hk ht⟩
