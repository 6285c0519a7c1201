theorem shF_comm (a b : Nat) : shF a b = shF b a := by unfold shF; rw [Nat.min_comm, Nat.max_comm]
theorem shF_ge {p q : Nat} (h : q ≤ p) : shF p q = (decide (0 < q) && (decide (p = q) || decide (cutF q < p))) := by
  unfold shF
  rw [Nat.min_eq_right h, Nat.max_eq_left h]
theorem shF_0 (p : Nat) : shF p 0 = false := by rw [shF_ge (Nat.zero_le _)]; simp
theorem cut_lt2 {q : Nat} (h1 : 1 ≤ q) (h2 : q ≤ 1000000000001) : cutF q < 2 * q := by
  have := (cut_spec h1 h2).1
  omega
theorem shF_big {p q : Nat} (hq : 1 ≤ q) (hq2 : q ≤ 1000000000001) (h : p = q ∨ 2 * q ≤ p) : shF p q = true := by
  rw [shF_ge (by omega)]
  have := cut_lt2 hq hq2
  rcases h with h | h
  · simp [h]; omega
  · simp; omega
theorem shF_step {p q : Nat} (h1 : q < p) (h2 : p < 2 * q) (hp : p ≤ 1000000000001) : shF p q = !shF q (p - q) := by
  have g := cut_G (r := p - q) (q := q) (by omega) (by omega) (by omega) (by omega)
  rw [show p - q + q = p by omega] at g
  rw [shF_ge (by omega), shF_ge (by omega)]
  have e1 : decide (p = q) = false := by simp; omega
  have e2 : decide (q = p - q) = false := by simp; omega
  have e3 : decide (0 < q) = true := by simp; omega
  have e4 : decide (0 < p - q) = true := by simp; omega
  rw [e1, e2, e3, e4]
  simp only [Bool.true_and, Bool.false_or]
  by_cases h : cutF q < p
  · have := g.mpr h
    simp [h]
    omega
  · have : ¬ q ≤ cutF (p - q) := fun z => h (g.mp z)
    simp [h]
    omega
theorem shF_less {p q : Nat} (h0 : 1 ≤ q) (h1 : q ≤ p) (h2 : p < 2 * q) (hp : p ≤ 1000000000001) : shF (p - q) q = !shF p q := by
  rcases Nat.lt_or_eq_of_le h1 with h | h
  · rw [shF_comm, shF_step h h2 hp, Bool.not_not]
  · subst h
    rw [Nat.sub_self, shF_comm, shF_0, shF_big h0 (by omega) (Or.inl rfl)]
    rfl
/-- the least number of times: from mm on, d of them -/
def ltF (p q : Nat) : Nat → Nat → Nat
  | 0, _ => 0
  | d + 1, mm => if shF (p - mm * q) q then ltF p q d (mm + 1) else mm
def smF (p q : Nat) : Nat := if shF p q then (if 1 < p / q ∧ shF (p - (p / q - 1) * q) q = false then p / q - 1 else p / q) else 0
theorem lt_sm {p q : Nat} (h0 : 1 ≤ q) (h1 : q ≤ p) (hp : p ≤ 1000000000000) : ltF p q (p / q + 1 - max 1 (p / q - 1)) (max 1 (p / q - 1)) = smF p q := by
  have d1 : p / q * q ≤ p := Nat.div_mul_le_self p q
  have d2 : p < p / q * q + q := by
    have := Nat.lt_div_mul_add (a := p) (b := q) (by omega)
    exact this
  have d3 : 1 ≤ p / q := (Nat.le_div_iff_mul_le (by omega)).mpr (by omega)
  unfold smF
  generalize hk : p / q = k at *
  rcases (show k = 1 ∨ 2 ≤ k by omega) with e | e
  · subst e
    have e1 : max 1 (1 - 1) = 1 := rfl
    rw [e1]
    show (if shF (p - 1 * q) q then 0 else 1) = _
    rw [Nat.one_mul, shF_less h0 h1 (by omega) (by omega)]
    cases shF p q <;> simp
  · have e1 : max 1 (k - 1) = k - 1 := Nat.max_eq_right (by omega)
    have e2 : k + 1 - (k - 1) = 2 := by omega
    have e3 : (k - 1) * q + q = k * q := by
      rw [← Nat.succ_mul]
      congr 1
      omega
    have e4 : k - 1 + 1 = k := by omega
    have h2q : 2 * q ≤ p := Nat.le_trans (Nat.mul_le_mul_right q e) d1
    rw [e1, e2]
    show (if shF (p - (k - 1) * q) q then (if shF (p - (k - 1 + 1) * q) q then 0 else k - 1 + 1) else k - 1) = _
    rw [e4, shF_big h0 (by omega) (Or.inr h2q), if_pos rfl]
    have hl := shF_less (p := p - (k - 1) * q) (q := q) h0 (by omega) (by omega) (by omega)
    rw [show p - (k - 1) * q - q = p - k * q by omega] at hl
    rw [hl]
    cases shF (p - (k - 1) * q) q
    · simp; omega
    · simp
theorem smF_0 (p : Nat) : smF p 0 = 0 := by unfold smF; rw [shF_0]; rfl
/-- a long as a number; a heap -/
def nL (x : Int64) : Nat := x.toInt.toNat
theorem hp_of {x : Int64} {N : Int64} {K : Nat} (hN : N = lN K) (hK : K < 2 ^ 63) (h : inW x 0 N = true) : x = lN (nL x) ∧ nL x ≤ K := by
  obtain ⟨h1, h2⟩ := inW_t h
  rw [hN] at h2
  obtain ⟨n, hn, rfl⟩ := ln_of hK h1 h2
  have e : nL (lN n) = n := by
    unfold nL
    rw [pk_lT (by omega)]
    rfl
  rw [e]
  exact ⟨rfl, hn⟩
abbrev hpB (x : Int64) : Bool := inW x 0 1000000000000
theorem hp_heap {x : Int64} (h : hpB x = true) : x = lN (nL x) ∧ nL x ≤ 1000000000000 := hp_of l12 (by decide) h
/-- the reference's object, by its fields -/
abbrev rL (v : Nat → Value) : List Value := [v 0, v 1, v 2, v 3, v 4, v 5, v 6, v 7, v 8, v 9, v 10, v 11, v 12, v 13, v 14, v 15, v 16, v 17]
def fibW (cA : Nat → ClassId) (M : mp) (m0 : Nat) : Prop := ∃ (v : Nat → Value) (fb : Nat) (f : Nat → Int64), M m0 = some (.inr (9, rL v)) ∧ v 0 = .ref fb ∧ M fb = some (.inl (cA 0, 64, .inr (.inl f))) ∧ ∀ j, j < 64 → f j = lN (fibN j)
theorem fib_gt : ∀ i, i < 63 → 58 ≤ i → 1000000000000 < fibN i := by decide +kernel
theorem cut_63 {k : Nat} (h1 : 1 ≤ k) (h2 : k ≤ 1000000000001) : 1 + rsF fibN 63 (k - 1) = cutF k := by
  unfold cutF
  rw [if_neg (by omega)]
  rw [show (63 : Nat) = 58 + 5 from rfl, rsF_skip fibN 5 (fun i h3 h4 => by have := fib_gt i (by omega) h3; omega)]
/-- the judge's parts -/
def judW (cA : Nat → ClassId) (M : mp) (J TG GO SG BG TM : Nat) : Prop := M J = some (.inr (2, [.ref TG, .ref GO, .ref SG, .ref BG, .ref TM])) ∧ M SG = some (.inr (5, [.ref GO])) ∧ M BG = some (.inr (0, [.ref GO])) ∧ goldW cA M GO
