/-- the reference's tables -/
def rtW (cA : Nat → ClassId) (M : mp) (wn ov th it : Nat) : Prop := (∃ fw fo : Nat → Int32, M wn = some (.inl (cA 2, 14884, .inl fw)) ∧ M ov = some (.inl (cA 2, 4, .inl fo)) ∧ t2W fw fo) ∧ (∃ ft fi : Nat → Int32, M th = some (.inl (cA 2, 2662, .inl ft)) ∧ M it = some (.inl (cA 2, 2, .inl fi)) ∧ t3W ft fi)
theorem by_2 {g : Int32} {mi : Bool} {a b c : Int32} (hg : g = 0 ∨ g = 1) (h1 : inW a.toInt64 0 60 = true) (h2 : inW b.toInt64 0 60 = true) : byV g mi a b c = bI (!lsB (nB g) mi (nB a) (nB b)) := by
  have h : ahF g true a.toInt64 b.toInt64 c.toInt64 = true := by unfold ahF; rw [if_pos hg]; simp [h1, h2]
  unfold byV lsG
  rw [if_pos h, if_neg]
  rcases hg with e | e <;> subst e <;> decide
theorem by_2b {g : Int32} {mi : Bool} {a b c : Int32} (hg : g = 0 ∨ g = 1) (h : inW a.toInt64 0 60 = false ∨ inW b.toInt64 0 60 = false) : byV g mi a b c = -2 := by
  have h : ahF g true a.toInt64 b.toInt64 c.toInt64 = false := by unfold ahF; rw [if_pos hg]; rcases h with h | h <;> simp [h]
  unfold byV
  rw [h]
  rfl
theorem by_3 {g : Int32} {mi : Bool} {a b c : Int32} (hg : g = 3) (h1 : inW a.toInt64 0 10 = true) (h2 : inW b.toInt64 0 10 = true) (h3 : inW c.toInt64 0 10 = true) : byV g mi a b c = bI (!ls3 mi (nB a) (nB b) (nB c)) := by
  subst hg
  have h : ahF 3 true a.toInt64 b.toInt64 c.toInt64 = true := by unfold ahF; rw [if_neg (by decide), if_neg (by decide), if_pos rfl]; simp [h1, h2, h3]
  unfold byV lsG
  rw [if_pos h, if_pos (by decide)]
theorem by_3b {g : Int32} {mi : Bool} {a b c : Int32} (h0 : ¬ g = 0) (h1 : ¬ g = 1) (h : ¬ g = 3 ∨ inW a.toInt64 0 10 = false ∨ inW b.toInt64 0 10 = false ∨ inW c.toInt64 0 10 = false) : byV g mi a b c = -2 := by
  have h : ahF g true a.toInt64 b.toInt64 c.toInt64 = false := by
    unfold ahF
    rw [if_neg (fun z => z.elim h0 h1)]
    split
    · rfl
    · split
      · rename_i q3
        rcases h with h | h | h | h
        · exact absurd q3 h
        · simp [h]
        · simp [h]
        · simp [h]
      · rfl
  unfold byV
  rw [h]
  rfl
