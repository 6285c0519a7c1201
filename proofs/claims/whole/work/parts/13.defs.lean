theorem nD_succ (i : Nat) : nI (i + 1) - 1 = nI i := nI_pred i
theorem nD_neg {k : Nat} (hk : k < 2 ^ 31) (h : nI k - 1 < 0) : k = 0 := by
  cases k with
  | zero => rfl
  | succ i => rw [nD_succ] at h; exact absurd h (nI_pos (by omega))
theorem nD_pos {k : Nat} (h : 0 ≤ nI k - 1) : ∃ i, k = i + 1 := by
  cases k with
  | zero => exact absurd h (by decide)
  | succ i => exact ⟨i, rfl⟩
theorem nD_at {k i : Nat} (h : k = i + 1) : nI k - 1 = nI i := by subst h; exact nD_succ i
theorem nD_dec {k i : Nat} (h : k = i + 1) : nI k - 1 + Int32.ofInt (-1) = nI i - 1 := by
  rw [nD_at h]
  cases i with
  | zero => decide
  | succ j => rw [nI_dn, nD_succ]
theorem nD_m2 {n : Nat} (h : 2 ≤ n) : nI n - 2 = nI (n - 1) - 1 := by
  obtain ⟨k, rfl⟩ : ∃ k, n = k + 2 := ⟨n - 2, by omega⟩
  rw [show k + 2 - 1 = k + 1 by omega, nD_succ]
  have : (2 : Int32) = nI 2 := by decide
  rw [this, nI_sub (by omega)]
  rfl
theorem nD_up {k i : Nat} (h : k = i + 1) : nI k - 1 + 1 = nI (i + 1) := by rw [nD_at h]; exact nI_1 i
/-- |a - b| -/
def dF (a b : Nat) : Nat := if a ≤ b then b - a else a - b
theorem abs_dF {a b : Nat} (ha : a ≤ 1000000000000) (hb : b ≤ 1000000000000) : (if 0 < lN a - lN b then lN a - lN b else -(lN a - lN b)) = lN (dF a b) := by
  unfold dF
  by_cases h : a ≤ b
  · rw [if_pos h]
    rw [if_neg, Int64.neg_sub, lN_sub h]
    intro hp
    rw [← Int64.neg_sub, lN_sub h, Int64.lt_iff_toInt_lt, show (lN (b - a)) = Int64.ofNat (b - a) from rfl, Int64.toInt_neg_ofNat_of_le (by omega)] at hp
    have : (0 : Int64).toInt = 0 := by decide
    omega
  · rw [if_neg h, lN_sub (by omega), if_pos]
    rw [l_0]
    exact (ln_lt (by decide) (by omega)).mpr (by omega)
theorem min_lN {a b : Nat} (ha : a ≤ 2000000000000) (hb : b ≤ 2000000000000) : (if lN b < lN a then lN b else lN a) = lN (min a b) := by
  by_cases h : b < a
  · rw [if_pos ((ln_lt (by omega) (by omega)).mpr h), Nat.min_eq_right (by omega)]
  · rw [if_neg (fun z => h ((ln_lt (by omega) (by omega)).mp z)), Nat.min_eq_left (by omega)]
theorem max_lN {a b : Nat} (ha : a ≤ 2000000000000) (hb : b ≤ 2000000000000) : (if lN b < lN a then lN a else lN b) = lN (max a b) := by
  by_cases h : b < a
  · rw [if_pos ((ln_lt (by omega) (by omega)).mpr h), Nat.max_eq_left (by omega)]
  · rw [if_neg (fun z => h ((ln_lt (by omega) (by omega)).mp z)), Nat.max_eq_right (by omega)]
theorem rsz_2 : rsz 2 = 59 := by decide +kernel
theorem cut_row {n : Nat} (h : 1 ≤ n) : 1 + rsF (rowN 2) (rsz 2 - 1) (n - 1) = cutF n := by
  unfold cutF
  rw [if_neg (by omega), rsz_2, rsF_cong 58 _ (fun k hk => row_2 k (by omega))]
/-! what the class tells of the pairs -/
def idxF (h : Nat) : Nat := if h = 0 then 0 else cutF h - h + 1
def isLF (h : Nat) : Bool := cutF (idxF h) == h
def prtF (h : Nat) : Nat := if isLF h then h + idxF h else cutF h - h
def idF (h : Nat) : Nat := if isLF h then idxF h else 2 * h - cutF h
theorem idxF_le {h : Nat} (hh : h ≤ 1000000000000) : idxF h ≤ 1000000000001 := by
  unfold idxF
  split
  · omega
  · rename_i h0
    have := cut_spec (show 1 ≤ h by omega) (show h ≤ 1000000000001 by omega)
    omega
def bothF (a b : Nat) : Bool := !(cutF (dF a b) == min a b)
def whichF (a b : Nat) : Int32 := if prtF b < a then 0 else if prtF a < b then 1 else if cutF (dF a b) < min a b then 2 else -1
def howF (a b : Nat) : Nat := if prtF b < a then a - prtF b else if prtF a < b then b - prtF a else if cutF (dF a b) < min a b then min a b - cutF (dF a b) else 0
def shF (a b : Nat) : Bool := decide (0 < min a b) && (decide (max a b = min a b) || decide (cutF (min a b) < max a b))
theorem prtF_le {h : Nat} (hh : h ≤ 1000000000000) : prtF h ≤ 3000000000000 := by
  have h1 := idxF_le hh
  have h2 := cut_le (k := h) (by omega)
  unfold prtF
  split <;> omega
theorem dF_le {a b : Nat} (ha : a ≤ 1000000000000) (hb : b ≤ 1000000000000) : dF a b ≤ 1000000000000 := by
  unfold dF
  split <;> omega
/-- THE ROW of two, held by the object go of Golden -/
def goldW (cA : Nat → ClassId) (M : mp) (go : Nat) : Prop := ∃ (s2 n2 : Nat) (f : Nat → Int64), M go = some (.inr (1, [.ref s2])) ∧ M s2 = some (.inr (6, [.ref n2, .int (nI (rsz 2))])) ∧ M n2 = some (.inl (cA 0, 240, .inr (.inl f))) ∧ ∀ j, j < rsz 2 → f j = lN (rowN 2 j)
/-- one row of sums by t, at the object h0 of Sums -/
def sumW (cA : Nat → ClassId) (M : mp) (t h0 : Nat) : Prop := ∃ (n0 : Nat) (f : Nat → Int64), M h0 = some (.inr (6, [.ref n0, .int (nI (rsz t))])) ∧ M n0 = some (.inl (cA 0, 240, .inr (.inl f))) ∧ ∀ j, j < rsz t → f j = lN (rowN t j)
