theorem agS.at {v v' : Nat → Value} (h : agS v v') {k : Nat} {x : Value} (hx : v k = x) (h2 : k ≠ 2) (h15 : k ≠ 15) (h16 : k ≠ 16) (h17 : k ≠ 17) : v' k = x := (h k h2 h15 h16 h17).trans hx
theorem rfA.brd {cA : Nat → ClassId} {M M' : mp} {m0 fb ra wn ov th it td hp bd fl : Nat} {v v' : Nat → Value} {fh fb2 fh' fb2' : Nat → Int64} {ff ff' : Nat → Int32} (h : rfA cA M m0 fb ra wn ov th it td hp bd fl v fh fb2 ff) (hk : kpL M M' [m0, hp, bd, fl]) (hR' : M' m0 = some (.inr (9, rL v'))) (hv' : v' 0 = .ref fb ∧ v' 1 = .ref ra ∧ v' 3 = .ref wn ∧ v' 4 = .ref ov ∧ v' 5 = .ref th ∧ v' 6 = .ref it ∧ v' 7 = .ref td ∧ v' 12 = .ref hp ∧ v' 13 = .ref bd ∧ v' 14 = .ref fl) (g1 : M' hp = some (.inl (cA 0, 603, .inr (.inl fh')))) (g2 : M' bd = some (.inl (cA 0, 201, .inr (.inl fb2')))) (g3 : M' fl = some (.inl (cA 1, 201, .inl ff'))) : rfA cA M' m0 fb ra wn ov th it td hp bd fl v' fh' fb2' ff' := by
  obtain ⟨hR, hv, ⟨f, h1, h2⟩, ⟨f0, h3⟩, ⟨⟨fw, fo, hwn, hov, t2⟩, ⟨ft, fi, hth, hit, t3⟩⟩, ⟨fd, h4⟩, h5, h6, h7⟩ := h
  have kp : ∀ (q : Nat) (e : va_E), M q = some e → e ≠ .inr (9, rL v) → e ≠ .inl (cA 0, 603, .inr (.inl fh)) → e ≠ .inl (cA 0, 201, .inr (.inl fb2)) → e ≠ .inl (cA 1, 201, .inl ff) → M' q = some e := fun q e hq n1 n2 n3 n4 => hk q e hq (ni4 (mp_ne hq hR n1) (mp_ne hq h5 n2) (mp_ne hq h6 n3) (mp_ne hq h7 n4))
  exact ⟨hR', hv', ⟨f, kp _ _ h1 (by simp) (by simp) (by simp) (by simp), h2⟩, ⟨f0, kp _ _ h3 (by simp) (by simp) (by simp) (by simp)⟩, ⟨⟨fw, fo, kp _ _ hwn (by simp) (by simp) (by simp) (by simp), kp _ _ hov (by simp) (by simp) (by simp) (by simp), t2⟩, ⟨ft, fi, kp _ _ hth (by simp) (by simp) (by simp) (by simp), kp _ _ hit (by simp) (by simp) (by simp) (by simp), t3⟩⟩, ⟨fd, kp _ _ h4 (by simp) (by simp) (by simp) (by simp)⟩, g1, g2, g3⟩
def moV (g : Int32) (m : Bool) : Int64 := if g = 3 then 10 else if m then 60 else 1000000000000
theorem ah_eq (g : Int32) (m : Bool) (a b c : Int64) : ahF g m a b c = (inW g.toInt64 0 3 && (inW a 0 (moV g m) && ((if g = 2 then inW b 1 9 && !m else inW b 0 (moV g m)) && (if g = 3 then inW c 0 (moV g m) else true)))) := by
  by_cases e0 : g = 0
  · subst e0
    simp [ahF, moV, show inW (0 : Int64) 0 3 = true from by decide]
  by_cases e1 : g = 1
  · subst e1
    simp [ahF, moV, show inW (1 : Int64) 0 3 = true from by decide]
  by_cases e2 : g = 2
  · subst e2
    cases m <;> simp [ahF, moV, hpB, show inW (2 : Int64) 0 3 = true from by decide]
  by_cases e3 : g = 3
  · subst e3
    simp [ahF, moV, show inW (3 : Int64) 0 3 = true from by decide, Bool.and_assoc]
  have h9 : inW g.toInt64 0 3 = false := by
    cases q : inW g.toInt64 0 3 with
    | false => rfl
    | true =>
      obtain ⟨e, -, hl⟩ := in_i32 (a := 0) (b := 3) (by decide) q (by decide)
      rcases (show nB g = 0 ∨ nB g = 1 ∨ nB g = 2 ∨ nB g = 3 by omega) with z | z | z | z <;> rw [z] at e
      · exact absurd e e0
      · exact absurd e e1
      · exact absurd e e2
      · exact absurd e e3
  rw [h9]
  simp [ahF, e0, e1, e2, e3]
def alF (g : Nat) : Nat := if g = 1 then 2 else 3
/-- which heaps a move takes from, as the reference tells it -/
theorem tk_eq {g w k : Nat} (hg : g ≤ 3) (hw : w < wyF g) (hk : k < 3) : decide (k < hcF g ∧ tkF g w k = true) = (if w < alF g then decide (k = w) else decide (k < alF g)) := by
  rcases (show g = 0 ∨ g = 1 ∨ g = 2 ∨ g = 3 by omega) with e | e | e | e <;> subst e
  · have hw2 : w < 2 := hw
    rcases (show w = 0 ∨ w = 1 by omega) with y | y <;> subst y <;> rcases (show k = 0 ∨ k = 1 ∨ k = 2 by omega) with z | z | z <;> subst z <;> decide
  · have hw2 : w < 3 := hw
    rcases (show w = 0 ∨ w = 1 ∨ w = 2 by omega) with y | y | y <;> subst y <;> rcases (show k = 0 ∨ k = 1 ∨ k = 2 by omega) with z | z | z <;> subst z <;> decide
  · have hw2 : w < 1 := hw
    have y : w = 0 := by omega
    subst y
    rcases (show k = 0 ∨ k = 1 ∨ k = 2 by omega) with z | z | z <;> subst z <;> decide
  · have hw2 : w < 4 := hw
    rcases (show w = 0 ∨ w = 1 ∨ w = 2 ∨ w = 3 by omega) with y | y | y | y <;> subst y <;> rcases (show k = 0 ∨ k = 1 ∨ k = 2 by omega) with z | z | z <;> subst z <;> decide
theorem hv0_0 (g a b c : Nat) : hv0 g a b c 0 = a := rfl
theorem hv0_1 (g a b c : Nat) : hv0 g a b c 1 = if g = 2 then 0 else b := rfl
theorem hv0_2 (g a b c : Nat) : hv0 g a b c 2 = if g = 3 then c else 0 := rfl
