def leT1 : List Nat := [541, 1, 2, 1, 4, 1, 2, 1, 8, 1, 2, 1, 4, 1, 2, 1, 16, 1, 2, 1, 4, 1, 2, 1, 8, 1, 2, 1, 4, 1, 2, 1, 32, 1, 2, 1, 4, 1, 2, 1, 8, 1, 2, 1, 4, 1, 2, 1, 16, 1, 2, 1, 4, 1, 2, 1, 8, 1, 2, 1, 4]
def leT2 : List Nat := [541, 1, 2, 3, 1, 5, 1, 2, 8, 1, 2, 3, 1, 13, 1, 2, 3, 1, 5, 1, 2, 21, 1, 2, 3, 1, 5, 1, 2, 8, 1, 2, 3, 1, 34, 1, 2, 3, 1, 5, 1, 2, 8, 1, 2, 3, 1, 13, 1, 2, 3, 1, 5, 1, 2, 55, 1, 2, 3, 1, 5]
def leT3 : List Nat := [541, 1, 2, 3, 4, 1, 6, 1, 8, 1, 2, 11, 1, 2, 3, 15, 1, 2, 3, 4, 1, 21, 1, 2, 3, 4, 1, 6, 1, 29, 1, 2, 3, 4, 1, 6, 1, 8, 1, 2, 40, 1, 2, 3, 4, 1, 6, 1, 8, 1, 2, 11, 1, 2, 3, 55, 1, 2, 3, 4, 1]
def leT4 : List Nat := [541, 1, 2, 3, 4, 5, 1, 7, 1, 9, 1, 2, 12, 1, 2, 15, 1, 2, 3, 19, 1, 2, 3, 4, 24, 1, 2, 3, 4, 5, 1, 31, 1, 2, 3, 4, 5, 1, 7, 1, 40, 1, 2, 3, 4, 5, 1, 7, 1, 9, 1, 2, 52, 1, 2, 3, 4, 5, 1, 7, 1]
def leT5 : List Nat := [541, 1, 2, 3, 4, 5, 6, 1, 8, 1, 10, 1, 12, 1, 2, 15, 1, 2, 18, 1, 2, 3, 22, 1, 2, 3, 4, 27, 1, 2, 3, 4, 5, 33, 1, 2, 3, 4, 5, 6, 1, 41, 1, 2, 3, 4, 5, 6, 1, 8, 1, 51, 1, 2, 3, 4, 5, 6, 1, 8, 1]
def leT6 : List Nat := [541, 1, 2, 3, 4, 5, 6, 7, 1, 9, 1, 11, 1, 13, 1, 2, 16, 1, 2, 19, 1, 2, 3, 23, 1, 2, 3, 27, 1, 2, 3, 4, 32, 1, 2, 3, 4, 5, 38, 1, 2, 3, 4, 5, 6, 45, 1, 2, 3, 4, 5, 6, 7, 1, 54, 1, 2, 3, 4, 5, 6]
def leT7 : List Nat := [541, 1, 2, 3, 4, 5, 6, 7, 8, 1, 10, 1, 12, 1, 14, 1, 16, 1, 2, 19, 1, 2, 22, 1, 2, 3, 26, 1, 2, 3, 30, 1, 2, 3, 4, 35, 1, 2, 3, 4, 40, 1, 2, 3, 4, 5, 46, 1, 2, 3, 4, 5, 6, 53, 1, 2, 3, 4, 5, 6, 7]
def leT8 : List Nat := [541, 1, 2, 3, 4, 5, 6, 7, 8, 9, 1, 11, 1, 13, 1, 15, 1, 17, 1, 2, 20, 1, 2, 23, 1, 2, 26, 1, 2, 3, 30, 1, 2, 3, 34, 1, 2, 3, 4, 39, 1, 2, 3, 4, 44, 1, 2, 3, 4, 5, 50, 1, 2, 3, 4, 5, 6, 57, 1, 2, 3]
def leT9 : List Nat := [541, 1, 2, 3, 4, 5, 6, 7, 8, 9, 10, 1, 12, 1, 14, 1, 16, 1, 18, 1, 20, 1, 2, 23, 1, 2, 26, 1, 2, 29, 1, 2, 3, 33, 1, 2, 3, 37, 1, 2, 3, 4, 42, 1, 2, 3, 4, 47, 1, 2, 3, 4, 5, 53, 1, 2, 3, 4, 5, 59, 1]
def leN (t h : Nat) : Nat := match t with
  | 1 => leT1.getD h 0
  | 2 => leT2.getD h 0
  | 3 => leT3.getD h 0
  | 4 => leT4.getD h 0
  | 5 => leT5.getD h 0
  | 6 => leT6.getD h 0
  | 7 => leT7.getD h 0
  | 8 => leT8.getD h 0
  | 9 => leT9.getD h 0
  | _ => 0
theorem le_a : ∀ t, t < 10 → 1 ≤ t → ∀ h, h < 61 → 1 ≤ h → 1 ≤ leN t h ∧ leN t h ≤ h := by decide +kernel
theorem le_b0 : ∀ t, t < 10 → 1 ≤ t → chk2 (fun h k => !(decide (1 ≤ k) && decide (k < leN t h) && decide (1 ≤ h)) || decide (leN t (h - k) ≤ t * k)) = true := by decide +kernel
theorem le_b (t : Nat) (ht : t < 10) (h1 : 1 ≤ t) (h : Nat) (hh : h < 61) (k : Nat) (hk : k < leN t h) (hk2 : k < 61) (hk1 : 1 ≤ k) : leN t (h - k) ≤ t * k ∨ h = 0 := by
  rcases Nat.eq_zero_or_pos h with e | e
  · exact Or.inr e
  · have q := chk2_at (le_b0 t ht h1) hh hk2
    rw [decide_eq_true hk, decide_eq_true hk1, decide_eq_true (show 1 ≤ h from e)] at q
    exact Or.inl (by simpa using q)
theorem le_c : ∀ t, t < 10 → 1 ≤ t → ∀ h, h < 61 → leN t h < h → t * leN t h < leN t (h - leN t h) := by decide +kernel
theorem le_d : ∀ t, t < 10 → 1 ≤ t → ∀ h, h < 61 → leN t h < 2147483648 := by decide +kernel
theorem le_0 : ∀ t, t < 10 → 1 ≤ t → leN t 0 = 541 := by decide +kernel
def tbF (t n b : Nat) : Bool := decide (leN t n ≤ b)
def ahF (g : Int32) (mi : Bool) (a b c : Int64) : Bool := if g = 0 ∨ g = 1 then inW a 0 (if mi then 60 else 1000000000000) && inW b 0 (if mi then 60 else 1000000000000) else if g = 2 then !mi && hpB a && inW b 1 9 else if g = 3 then inW a 0 10 && inW b 0 10 && inW c 0 10 else false
def mostI (g : Int32) : Int32 := if g = 0 then 60 else if g = 1 then 60 else if g = 3 then 10 else -1
def byV (g : Int32) (mi : Bool) (a b c : Int32) : Int32 := if ahF g true a.toInt64 b.toInt64 c.toInt64 then bI (!lsG (nB g) mi (nB a) (nB b) (nB c)) else -2
def luV (g : Int32) (mi : Bool) (m : Int32) : Int32 := if inW m.toInt64 1 (mostI g).toInt64 then cuG (nB g) mi (nB m) else -2
def tbV (x n b : Int32) : Int32 := if byB x && inW n.toInt64 0 60 && inW b.toInt64 0 60 then bI (tbF (nB x) (nB n) (nB b)) else -2
theorem k_X3_hasR (l : Launch) (D : va_G) (cA : Nat → ClassId) (M : mp) (g : Nat) (mi : Bool) (lt a b : Nat) (c : Int32) (hg : g = 0 ∨ g = 1 ∨ g = 3) (h : tabG cA M g mi lt) (ha : g ≤ 1 → a ≤ 60 ∧ b ≤ 60) (h3 : g = 3 → a ≤ 10 ∧ b ≤ 10 ∧ c = nI (nB c) ∧ nB c ≤ 10) : PC l D cA yX3_has wsX3_has 0 0 [.ref lt, .int (nI a), .int (nI b), .int c] M (some (.int (bI (lsG g mi a b (nB c))))) := by
  by_cases e : g = 3
  · have h4 := h3 e
    have h9 := k_X3_hasG l D cA M g mi lt a b (nB c) hg h ha (fun _ => ⟨h4.1, h4.2.1, h4.2.2.2⟩)
    rw [← h4.2.2.1] at h9
    exact h9
  · have h4 := ha (by omega)
    unfold tabG at h
    rw [if_neg e] at h
    unfold lsG
    rw [if_neg e, ← bit_2 (g := g) (mi := mi) (by omega) h4.1 h4.2]
    exact k_X3_has2 l D cA M g mi lt a b c h h4.1 h4.2
theorem ah_case {g : Int32} {mi : Bool} {a b c : Int64} (h : ahF g mi a b c = true) : (g = nI (nB g) ∧ nB g ≤ 3) ∧ ((nB g = 0 ∨ nB g = 1) ∧ inW a 0 (if mi then 60 else 1000000000000) = true ∧ inW b 0 (if mi then 60 else 1000000000000) = true ∨ (nB g = 2 ∧ mi = false ∧ hpB a = true ∧ inW b 1 9 = true) ∨ (nB g = 3 ∧ inW a 0 10 = true ∧ inW b 0 10 = true ∧ inW c 0 10 = true)) := by
  unfold ahF at h
  by_cases e0 : g = 0
  · subst e0; simp at h; exact ⟨by decide, Or.inl ⟨Or.inl (by decide), h⟩⟩
  · by_cases e1 : g = 1
    · subst e1; simp at h; exact ⟨by decide, Or.inl ⟨Or.inr (by decide), h⟩⟩
    · by_cases e2 : g = 2
      · subst e2; simp at h; exact ⟨by decide, Or.inr (Or.inl ⟨by decide, h.1.1, h.1.2, h.2⟩)⟩
      · by_cases e3 : g = 3
        · subst e3; simp at h; exact ⟨by decide, Or.inr (Or.inr ⟨by decide, h.1.1, h.1.2, h.2⟩)⟩
        · simp [e0, e1, e2, e3] at h

