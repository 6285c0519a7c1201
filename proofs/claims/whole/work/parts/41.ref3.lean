def l3 (mi : Bool) (j : Nat) : Bool := (tabN 3 mi).testBit j
def n3 (a b c : Nat) : Nat := 121 * a + 11 * b + c
def s3 (mi : Bool) (a b c k : Nat) : Bool := (decide (k ≤ a) && l3 mi (n3 a b c - 121 * k)) || ((decide (k ≤ b) && l3 mi (n3 a b c - 11 * k)) || ((decide (k ≤ c) && l3 mi (n3 a b c - k)) || (decide (k ≤ a) && (decide (k ≤ b) && (decide (k ≤ c) && l3 mi (n3 a b c - 133 * k))))))
theorem g3_ok : ∀ mi : Bool, ∀ a, a < 11 → ∀ b, b < 11 → ∀ c, c < 11 → (if a + b + c = 0 then mi else anB (s3 mi a b c) 10) = !l3 mi (n3 a b c) := by decide +kernel
theorem l3_ls3 (mi : Bool) (a b c : Nat) : l3 mi (n3 a b c) = ls3 mi a b c := rfl
def up3 (mi : Bool) (pt n : Nat) (ft : Nat → Int32) : Prop := ∀ j, j < n → j < 1331 → ft (1331 * pt + j) = bI (!l3 mi j)
def t3W (ft fi : Nat → Int32) : Prop := ∀ mi : Bool, ¬ fi (bN mi) = 0 → ∀ j, j < 1331 → ft (1331 * bN mi + j) = bI (!l3 mi j)
theorem up3.nxt {mi : Bool} {pt n : Nat} {f : Nat → Int32} (h : up3 mi pt n f) : up3 mi pt (n + 1) (upd f (1331 * pt + n) (bI (!l3 mi n))) := by
  intro j hj hj2
  by_cases e : j = n
  · rw [e, pk_us]
  · rw [pk_un (by omega)]; exact h j (by omega) hj2
theorem t3W.done {ft fi f : Nat → Int32} (h : t3W ft fi) {mi : Bool} (hn : ∀ j, j < 1331 → f (1331 * bN mi + j) = bI (!l3 mi j)) (ho : ∀ i, i < 1331 * bN mi ∨ 1331 * bN mi + 1331 ≤ i → f i = ft i) : t3W f (upd fi (bN mi) 1) := by
  intro m1 hz j hj
  by_cases e : bN m1 = bN mi
  · have e2 : m1 = mi := bN_inj e
    subst e2
    exact hn j hj
  · rw [pk_un e] at hz
    have b1 : bN mi ≤ 1 := by cases mi <;> decide
    have b2 : bN m1 ≤ 1 := by cases m1 <;> decide
    rw [ho _ (by omega)]
    exact h m1 hz j hj
