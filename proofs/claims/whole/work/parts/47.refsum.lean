def smN (f : Nat → Nat) : Nat → Nat
  | 0 => 0
  | n + 1 => smN f n + f n
theorem smN_c {f f' : Nat → Nat} : ∀ n, (∀ k, k < n → f k = f' k) → smN f n = smN f' n
  | 0, _ => rfl
  | n + 1, h => by
    show smN f n + f n = smN f' n + f' n
    rw [smN_c n (fun k hk => h k (by omega)), h n (by omega)]
def bcL (g : Nat) (mi : Bool) (j m : Nat) : Int32 := bcI (tbI g mi j &&& mskI m)
def bcP (g : Nat) (mi : Bool) (j : Nat) : Nat → Int32
  | 0 => 0
  | k + 1 => bcL g mi j k
def bcC (g : Nat) (mi : Bool) (j m : Nat) : Bool := bcL g mi j m == bcP g mi j m + nI (bN (lsB g mi j m))
theorem bc_0n : chk2 (bcC 0 false) = true := by decide +kernel
theorem bc_0m : chk2 (bcC 0 true) = true := by decide +kernel
theorem bc_1n : chk2 (bcC 1 false) = true := by decide +kernel
theorem bc_1m : chk2 (bcC 1 true) = true := by decide +kernel
theorem bc_ok {g : Nat} {mi : Bool} {a b : Nat} (hg : g ≤ 1) (ha : a ≤ 60) (hb : b ≤ 60) : bcL g mi a b = bcP g mi a b + nI (bN (lsB g mi a b)) := by
  rcases (show g = 0 ∨ g = 1 by omega) with e | e <;> subst e <;> cases mi
  · exact eq_of_beq (chk2_at bc_0n (by omega) (by omega))
  · exact eq_of_beq (chk2_at bc_0m (by omega) (by omega))
  · exact eq_of_beq (chk2_at bc_1n (by omega) (by omega))
  · exact eq_of_beq (chk2_at bc_1m (by omega) (by omega))
theorem bc_sm {g : Nat} {mi : Bool} {a : Nat} (hg : g ≤ 1) (ha : a ≤ 60) : ∀ m, m ≤ 60 → bcL g mi a m = nI (smN (fun b => bN (lsB g mi a b)) (m + 1))
  | 0, h => by rw [bc_ok hg ha h]; show (0 : Int32) + nI _ = nI (0 + _); rw [← nI_add]; rfl
  | m + 1, h => by
    rw [bc_ok hg ha h]
    show bcL g mi a m + _ = nI (smN _ (m + 1) + _)
    rw [bc_sm hg ha m (by omega), nI_add]
theorem cu2_sm {g : Nat} {mi : Bool} {m : Nat} (hg : g ≤ 1) (hm : m ≤ 60) : ∀ j, j ≤ 61 → cu2 g mi m j = nI (smN (fun a => smN (fun b => bN (lsB g mi a b)) (m + 1)) (min j (m + 1)))
  | 0, _ => by rw [Nat.zero_min]; rfl
  | j + 1, h => by
    have ih := cu2_sm (g := g) (mi := mi) hg hm j (by omega)
    show (if j ≤ m then cu2 g mi m j + bcL g mi j m else cu2 g mi m j) = _
    split
    · rename_i q
      rw [ih, bc_sm hg (by omega) m hm, Nat.min_eq_left (by omega), Nat.min_eq_left (by omega), nI_add]
      rfl
    · rename_i q
      rw [ih, Nat.min_eq_right (by omega), Nat.min_eq_right (by omega)]
/-- how many LOST places the reference counts -/
def ctC (g : Nat) (mi : Bool) (m a b c : Nat) : Nat := smN (fun c => bN (lsG g mi a b c)) c
def ctB (g : Nat) (mi : Bool) (m a b : Nat) : Nat := smN (fun b => ctC g mi m a b (if g = 3 then m + 1 else 1)) b
def ctA (g : Nat) (mi : Bool) (m a : Nat) : Nat := smN (fun a => ctB g mi m a (m + 1)) a
theorem ct_3 : ∀ mi : Bool, ∀ m, m < 11 → cuG 3 mi m = nI (ctA 3 mi m (m + 1)) := by decide +kernel
theorem ct_2 {g : Nat} {mi : Bool} {m : Nat} (hg : g ≤ 1) (hm : m ≤ 60) : cuG g mi m = nI (ctA g mi m (m + 1)) := by
  unfold cuG
  rw [if_neg (by omega), cu2_sm hg hm 61 (Nat.le_refl _), Nat.min_eq_right (by omega)]
  congr 1
  refine smN_c _ (fun a ha => smN_c _ (fun b hb => ?_))
  unfold ctC
  rw [if_neg (by omega)]
  show _ = 0 + bN (lsG g mi a b 0)
  unfold lsG
  rw [if_neg (by omega), Nat.zero_add]
def loG (g : Int32) (mi : Bool) (m : Int32) : Prop := (nB g = 0 ∨ nB g = 1 ∨ nB g = 3) ∧ g = nI (nB g) ∧ m = nI (nB m) ∧ nB m ≤ 60 ∧ (nB g = 3 → nB m ≤ 10) ∧ luV g mi m = nI (ctA (nB g) mi (nB m) (nB m + 1))
theorem lo_3 {g : Int32} {mi : Bool} {m : Int32} (hg : g = 3) (h : inW m.toInt64 1 10 = true) : loG g mi m := by
  subst hg
  obtain ⟨e, -, l⟩ := in_i32 (a := 1) (b := 10) (by decide) h (by decide)
  refine ⟨Or.inr (Or.inr (by decide)), by decide, e, by omega, fun _ => l, ?_⟩
  unfold luV
  rw [show (mostI 3).toInt64 = 10 from by decide, if_pos h]
  exact ct_3 mi (nB m) (by omega)
theorem lo_2 {g : Int32} {mi : Bool} {m : Int32} (hg : g = 0 ∨ g = 1) (h : inW m.toInt64 1 60 = true) : loG g mi m := by
  obtain ⟨e, -, l⟩ := in_i32 (a := 1) (b := 60) (by decide) h (by decide)
  have hb : nB g ≤ 1 := by rcases hg with e | e <;> subst e <;> decide
  refine ⟨by omega, by rcases hg with e | e <;> subst e <;> decide, e, l, fun z => by omega, ?_⟩
  unfold luV
  rw [show (mostI g).toInt64 = 60 from by rcases hg with e | e <;> subst e <;> decide, if_pos h]
  exact ct_2 hb l
theorem lo_b {g : Int32} {mi : Bool} {m : Int32} (h : (¬ g = 0 ∧ ¬ g = 1 ∧ ¬ g = 3) ∨ (g = 3 ∧ inW m.toInt64 1 10 = false) ∨ ((g = 0 ∨ g = 1) ∧ inW m.toInt64 1 60 = false)) : luV g mi m = -2 := by
  have h9 : inW m.toInt64 1 (mostI g).toInt64 = false := by
    rcases h with ⟨a, b, c⟩ | ⟨a, b⟩ | ⟨a, b⟩
    · have e9 : mostI g = -1 := by unfold mostI; rw [if_neg a, if_neg b, if_neg c]
      rw [e9]
      cases q : inW m.toInt64 1 (-1 : Int32).toInt64 with
      | false => rfl
      | true =>
        have := inW_t q
        exact absurd (Int64.le_trans this.1 this.2) (by decide)
    · subst a; exact b
    · rcases a with a | a <;> subst a <;> exact b
  unfold luV
  rw [h9]
  rfl
