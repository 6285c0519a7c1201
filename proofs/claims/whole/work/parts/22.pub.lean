def nB (x : Int32) : Nat := x.toInt.toNat
abbrev byB (x : Int32) : Bool := inW x.toInt64 1 9
theorem i64_toInt (x : Int32) : x.toInt64.toInt = x.toInt := by simp
theorem in_i32 {x : Int32} {a b : Nat} (hb : b < 2 ^ 31) (h : inW x.toInt64 (lN a) (lN b) = true) (ha : a ≤ b) : x = nI (nB x) ∧ a ≤ nB x ∧ nB x ≤ b := by
  obtain ⟨h1, h2⟩ := inW_t h
  rw [Int64.le_iff_toInt_le, i64_toInt, pk_lT (by omega)] at h1 h2
  have e : x.toInt = (nB x : Int) := by unfold nB; omega
  refine ⟨?_, by omega, by omega⟩
  apply Int32.toInt_inj.mp
  rw [nI_toInt (by omega)]
  exact e
theorem by_of {x : Int32} (h : byB x = true) : x = nI (nB x) ∧ 1 ≤ nB x ∧ nB x ≤ 9 := in_i32 (a := 1) (b := 9) (by decide) h (by decide)
theorem w01_of {x : Int32} (h : inW x.toInt64 0 1 = true) : x = 0 ∨ x = 1 := by
  obtain ⟨h1, h2, h3⟩ := in_i32 (a := 0) (b := 1) (by decide) h (by decide)
  rcases (show nB x = 0 ∨ nB x = 1 by omega) with g | g
  · left; rw [h1, g]; rfl
  · right; rw [h1, g]; rfl
theorem enF_top {t n x : Nat} (h1 : 1 ≤ t) (h9 : t ≤ 9) (hn : n ≤ 1000000000000) : enF (rowN t) (rsz t) n x = enF (rowN t) (rsz t - 1) n x := by
  obtain ⟨-, -, h3, -, h5⟩ := row_0 t (by omega) h1
  obtain ⟨k, hk⟩ : ∃ k, rsz t = k + 1 := ⟨rsz t - 1, by omega⟩
  rw [hk] at h5 ⊢
  show (if rowN t k ≤ n then _ else enF (rowN t) k n x) = _
  rw [if_neg (by rw [show k + 1 - 1 = k by omega] at h5; omega)]
  rfl
theorem cnF_top {t n : Nat} (h1 : 1 ≤ t) (h9 : t ≤ 9) (hn : n ≤ 1000000000000) : cnF (rowN t) (rsz t) n = cnF (rowN t) (rsz t - 1) n := by
  obtain ⟨-, -, h3, -, h5⟩ := row_0 t (by omega) h1
  obtain ⟨k, hk⟩ : ∃ k, rsz t = k + 1 := ⟨rsz t - 1, by omega⟩
  rw [hk] at h5 ⊢
  show (if rowN t k ≤ n then _ else cnF (rowN t) k n) = _
  rw [if_neg (by rw [show k + 1 - 1 = k by omega] at h5; omega)]
  rfl
def enD (t n : Nat) : Nat := enF (rowN t) (rsz t - 1) n 0
def cnD (t n : Nat) : Nat := cnF (rowN t) (rsz t - 1) n
theorem enD_0 {t : Nat} (h1 : 1 ≤ t) (h9 : t ≤ 9) : enD t 0 = 0 := by
  obtain ⟨-, -, h3, -, h5⟩ := row_0 t (by omega) h1
  exact enF_0 _ _ _ (fun k hk => (row_pos h1 h9 (i := k) (by omega)).1)
theorem enD_pos {t n : Nat} (h1 : 1 ≤ t) (h9 : t ≤ 9) (hn : 1 ≤ n) : 1 ≤ enD t n := by
  obtain ⟨h0, -, h3, -, h5⟩ := row_0 t (by omega) h1
  exact enF_pos _ h0 _ _ _ (fun k hk => (row_pos h1 h9 (i := k) (by omega)).1) (Or.inr ⟨hn, by omega⟩)
theorem enF_le (R : Nat → Nat) : ∀ (i n x : Nat), enF R i n x ≤ max n x
  | 0, n, x => by show x ≤ _; omega
  | i + 1, n, x => by
    show (if R i ≤ n then enF R i (n - R i) (R i) else enF R i n x) ≤ _
    split
    · have := enF_le R i (n - R i) (R i); omega
    · exact enF_le R i n x
theorem enD_le (t n : Nat) : enD t n ≤ n := by have := enF_le (rowN t) (rsz t - 1) n 0; unfold enD; omega
/-- WON: TIMES t at n, b -/
def tiF (t n b : Nat) : Bool := decide (0 < n) && decide (enD t n ≤ b)
/-! what the calls answer -/
def shV (a b : Int64) : Int32 := if hpB a && hpB b then bI (shF (nL a) (nL b)) else -2
def smV (a b : Int64) : Int64 := if hpB a && hpB b then lN (smF (max (nL a) (nL b)) (min (nL a) (nL b))) else -2
def boV (a b : Int64) : Int32 := if hpB a && hpB b then bI (bothF (nL a) (nL b)) else -2
def bmV (a b : Int64) (w : Int32) : Int64 := if hpB a && hpB b && inW w.toInt64 0 1 then (if w = 0 then (whichF (nL a) (nL b)).toInt64 else lN (howF (nL a) (nL b))) else -2
def loV (k : Int64) (w : Int32) : Int64 := if inW k 0 300000000000 && inW w.toInt64 0 1 then (if w = 0 then lN (cutF (nL k)) else lN (cutF (nL k) + nL k)) else -2
def ofV (h : Int64) (w : Int32) : Int64 := if hpB h && inW w.toInt64 0 1 then (if w = 0 then lN (idF (nL h)) else (bI (isLF (nL h))).toInt64) else -2
def roV (x i : Int32) : Int64 := if byB x && decide (0 ≤ i) then (if i.toNatClampNeg < rsz (nB x) - 1 then lN (rowN (nB x) i.toNatClampNeg) else -1) else -2
def diV (x : Int32) (n : Int64) : Int32 := if byB x && hpB n then nI (cnD (nB x) (nL n)) else -2
def laV (x : Int32) (n : Int64) : Int64 := if byB x && inW n 1 1000000000000 then lN (enD (nB x) (nL n)) else -2
def tiV (x : Int32) (n b : Int64) : Int32 := if byB x && hpB n && hpB b then bI (tiF (nB x) (nL n) (nL b)) else -2
def tmV (x : Int32) (n b : Int64) : Int64 := if byB x && hpB n && hpB b then (if tiF (nB x) (nL n) (nL b) then lN (enD (nB x) (nL n)) else 0) else -2
theorem hp_1 {n : Int64} (h : inW n 1 1000000000000 = true) : n = lN (nL n) ∧ nL n ≤ 1000000000000 ∧ 1 ≤ nL n := by
  obtain ⟨h1, h2⟩ := inW_t h
  have h0 : inW n 0 1000000000000 = true := by
    unfold inW
    simp only [Bool.and_eq_true, decide_eq_true_eq]
    exact ⟨Int64.le_trans (by decide) h1, h2⟩
  obtain ⟨e, hb⟩ := hp_of l12 (by decide) h0
  refine ⟨e, hb, ?_⟩
  rw [e, l_1] at h1
  exact (ln_le (by decide) (by omega)).mp h1
/-- a call of the reference that only uses its scratch fields and its row -/
def scr (cA : Nat → ClassId) (M M' : mp) (m0 ra : Nat) (v : Nat → Value) : Prop := ∃ (v' : Nat → Value) (f' : Nat → Int64), M' m0 = some (.inr (9, rL v')) ∧ (∀ k, k ≠ 2 → k ≠ 15 → k ≠ 16 → k ≠ 17 → v' k = v k) ∧ M' ra = some (.inl (cA 0, 500, .inr (.inl f'))) ∧ kpL M M' [m0, ra]
theorem divL {x y : Int64} {m n : Nat} (hx : x = lN m) (hy : y = lN n) (h1 : m < 2 ^ 63) (h0 : 0 < n) (h2 : n < 2 ^ 63) : x / y = lN (m / n) := by rw [hx, hy]; exact pk_lDiv h1 h0 h2
theorem ltL {x y : Int64} {m n : Nat} (hx : x = lN m) (hy : y = lN n) (h1 : m < 2 ^ 63) (h2 : n < 2 ^ 63) : x < y ↔ m < n := by rw [hx, hy]; exact ln_lt h1 h2
theorem leL {x y : Int64} {m n : Nat} (hx : x = lN m) (hy : y = lN n) (h1 : m < 2 ^ 63) (h2 : n < 2 ^ 63) : x ≤ y ↔ m ≤ n := by rw [hx, hy]; exact ln_le h1 h2
theorem subL {x y : Int64} {m n : Nat} (hx : x = lN m) (hy : y = lN n) (h : n ≤ m) : x - y = lN (m - n) := by rw [hx, hy]; exact lN_sub h
theorem dfL1 {x y : Int64} {m n : Nat} (hx : x = lN m) (hy : y = lN n) (h : m ≤ n) : y - x = lN (dF m n) := by rw [subL hy hx h]; unfold dF; rw [if_pos h]
theorem dfL2 {x y : Int64} {m n : Nat} (hx : x = lN m) (hy : y = lN n) (h : n ≤ m) : x - y = lN (dF m n) := by
  rw [subL hx hy h]; unfold dF
  split
  · congr 1; omega
  · rfl
theorem wF0 {a b : Nat} (h : prtF b < a) : whichF a b = 0 ∧ howF a b = a - prtF b := by unfold whichF howF; simp [h]
theorem wF1 {a b : Nat} (h : ¬ prtF b < a) (h2 : prtF a < b) : whichF a b = 1 ∧ howF a b = b - prtF a := by unfold whichF howF; simp [h, h2]
theorem wF2 {a b : Nat} (h : ¬ prtF b < a) (h2 : ¬ prtF a < b) (h3 : cutF (dF a b) < min a b) : whichF a b = 2 ∧ howF a b = min a b - cutF (dF a b) := by unfold whichF howF; simp [h, h2, h3]
theorem wF3 {a b : Nat} (h : ¬ prtF b < a) (h2 : ¬ prtF a < b) (h3 : ¬ cutF (dF a b) < min a b) : whichF a b = -1 ∧ howF a b = 0 := by unfold whichF howF; simp [h, h2, h3]
theorem scr.tr {cA : Nat → ClassId} {M M1 M2 : mp} {m0 ra : Nat} {v v1 : Nat → Value} (hv : ∀ k, k ≠ 2 → k ≠ 15 → k ≠ 16 → k ≠ 17 → v1 k = v k) (hk : kpL M M1 [m0, ra]) (h : scr cA M1 M2 m0 ra v1) : scr cA M M2 m0 ra v := by
  obtain ⟨v', f', h1, h2, h3, h4⟩ := h
  exact ⟨v', f', h1, fun k a b c d => (h2 k a b c d).trans (hv k a b c d), h3, hk.call h4 (by simp)⟩
theorem t2 : (true && true) = true := rfl
theorem t3 : (true && true && true) = true := rfl
