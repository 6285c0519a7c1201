/-! the BOARD in numbers: g the GAME, mi MISERE, t, mv moves made, hv the heaps now, lm what was taken last -/
def hcF (g : Nat) : Nat := if g = 3 then 3 else if g = 2 then 1 else 2
def wyF (g : Nat) : Nat := if g = 1 then 3 else if g = 3 then 4 else if g = 2 then 1 else 2
def tkF (g w k : Nat) : Bool := decide (w = k) || decide (w = hcF g)
def bdV (g t mv h0 lm : Nat) : Nat := if g = 2 then (if mv = 0 then h0 - 1 else min 1000000000000 (t * lm)) else 0
abbrev mtP (g mv : Nat) (hv : Nat → Nat) (bd w n : Nat) : Prop := mv < 200 ∧ (∀ k, k < hcF g → tkF g w k = true → n ≤ hv k) ∧ (g = 0 → 0 < hv (1 - w) ∧ n % hv (1 - w) = 0) ∧ (g = 2 → n ≤ bd)
def mtF (g mv : Nat) (hv : Nat → Nat) (bd w : Nat) (x : Int64) : Bool := decide (1 ≤ x) && decide (mtP g mv hv bd w (nL x))
def ovF (g : Nat) (hv : Nat → Nat) (bd : Nat) : Bool := if g = 0 then decide (hv 0 = 0) || decide (hv 1 = 0) else if g = 2 then decide (hv 0 = 0) || decide (bd = 0) else decide (hv 0 = 0) && (decide (hv 1 = 0) && decide (hv 2 = 0))
def fcF (fa : Nat → Bool) : Nat → Nat
  | 0 => 0
  | j + 1 => fcF fa j + bN (fa j)
theorem hcF_le (g : Nat) : 1 ≤ hcF g ∧ hcF g ≤ 3 := by unfold hcF; split <;> (try split) <;> omega
theorem bdV_le {g t mv h0 lm : Nat} (h : h0 ≤ 1000000000000) : bdV g t mv h0 lm ≤ 1000000000000 := by unfold bdV; split <;> (try split) <;> omega
theorem max0_lN {h : Nat} (hh : h ≤ 1000000000000) : (if lN h - 1 < 0 then 0 else lN h - 1) = lN (h - 1) := by
  rcases Nat.eq_zero_or_pos h with e | e
  · subst e; decide
  · rw [l_1, lN_sub e, if_neg]
    rw [l_0, ln_lt (by omega) (by decide)]
    omega
theorem ge1_nL {x : Int64} (h : 1 ≤ x) : x = lN (nL x) ∧ 1 ≤ nL x ∧ nL x < 2 ^ 63 := by
  obtain ⟨k, hk, rfl⟩ := pk_lOf (x := x) (by rw [Int64.not_lt]; exact Int64.le_trans (by decide) h)
  have e : nL (lN k) = k := by unfold nL; rw [pk_lT hk]; rfl
  rw [e]
  rw [l_1] at h
  exact ⟨rfl, (ln_le (by decide) hk).mp h, hk⟩
