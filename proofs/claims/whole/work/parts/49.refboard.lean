/-- the reference's cells: its object, fib, row, the tables, timed, heaps, bounds, faults -/
def rfA (cA : Nat → ClassId) (M : mp) (m0 fb ra wn ov th it td hp bd fl : Nat) (v : Nat → Value) (fh fb2 : Nat → Int64) (ff : Nat → Int32) : Prop :=
  M m0 = some (.inr (9, rL v)) ∧ (v 0 = .ref fb ∧ v 1 = .ref ra ∧ v 3 = .ref wn ∧ v 4 = .ref ov ∧ v 5 = .ref th ∧ v 6 = .ref it ∧ v 7 = .ref td ∧ v 12 = .ref hp ∧ v 13 = .ref bd ∧ v 14 = .ref fl) ∧ (∃ f : Nat → Int64, M fb = some (.inl (cA 0, 64, .inr (.inl f))) ∧ ∀ j, j < 64 → f j = lN (fibN j)) ∧ (∃ f0 : Nat → Int64, M ra = some (.inl (cA 0, 500, .inr (.inl f0)))) ∧ rtW cA M wn ov th it ∧ (∃ fd : Nat → Int32, M td = some (.inl (cA 2, 3721, .inl fd))) ∧ M hp = some (.inl (cA 0, 603, .inr (.inl fh))) ∧ M bd = some (.inl (cA 0, 201, .inr (.inl fb2))) ∧ M fl = some (.inl (cA 1, 201, .inl ff))
def agS (v v' : Nat → Value) : Prop := ∀ k, k ≠ 2 → k ≠ 15 → k ≠ 16 → k ≠ 17 → v' k = v k
theorem agS.rf (v : Nat → Value) : agS v v := fun _ _ _ _ _ => rfl
theorem agS.tr {v v1 v2 : Nat → Value} (h : agS v v1) (h2 : agS v1 v2) : agS v v2 := fun k a b c d => (h2 k a b c d).trans (h k a b c d)
theorem rfA.fib {cA : Nat → ClassId} {M : mp} {m0 fb ra wn ov th it td hp bd fl : Nat} {v : Nat → Value} {fh fb2 : Nat → Int64} {ff : Nat → Int32} (h : rfA cA M m0 fb ra wn ov th it td hp bd fl v fh fb2 ff) : fibW cA M m0 := by
  obtain ⟨hR, ⟨hv0, -⟩, ⟨f, h1, h2⟩, -⟩ := h
  exact ⟨v, fb, f, hR, hv0, h1, h2⟩
theorem ni4 {q a b c d : Nat} (h1 : q ≠ a) (h2 : q ≠ b) (h3 : q ≠ c) (h4 : q ≠ d) : q ∉ [a, b, c, d] := by simpa using ⟨h1, h2, h3, h4⟩
theorem rfA.tab {cA : Nat → ClassId} {M M' : mp} {m0 fb ra wn ov th it td hp bd fl : Nat} {v : Nat → Value} {fh fb2 : Nat → Int64} {ff : Nat → Int32} (h : rfA cA M m0 fb ra wn ov th it td hp bd fl v fh fb2 ff) (hk : kpL M M' [wn, ov, th, it]) (hT : rtW cA M' wn ov th it) : rfA cA M' m0 fb ra wn ov th it td hp bd fl v fh fb2 ff := by
  obtain ⟨hR, hv, ⟨f, h1, h2⟩, ⟨f0, h3⟩, ⟨⟨fw, fo, hwn, hov, -⟩, ⟨ft, fi, hth, hit, -⟩⟩, ⟨fd, h4⟩, h5, h6, h7⟩ := h
  refine ⟨hk _ _ hR ?_, hv, ⟨f, hk _ _ h1 ?_, h2⟩, ⟨f0, hk _ _ h3 ?_⟩, hT, ⟨fd, hk _ _ h4 ?_⟩, hk _ _ h5 ?_, hk _ _ h6 ?_, hk _ _ h7 ?_⟩
  · exact ni4 (mp_ne hR hwn (by simp)) (mp_ne hR hov (by simp)) (mp_ne hR hth (by simp)) (mp_ne hR hit (by simp))
  · exact ni4 (mp_ne h1 hwn (by simp)) (mp_ne h1 hov (by simp)) (mp_ne h1 hth (by simp)) (mp_ne h1 hit (by simp))
  · exact ni4 (mp_ne h3 hwn (by simp)) (mp_ne h3 hov (by simp)) (mp_ne h3 hth (by simp)) (mp_ne h3 hit (by simp))
  · exact ni4 (mp_ne h4 hwn (by simp)) (mp_ne h4 hov (by simp)) (mp_ne h4 hth (by simp)) (mp_ne h4 hit (by simp))
  · exact ni4 (mp_ne h5 hwn (by simp)) (mp_ne h5 hov (by simp)) (mp_ne h5 hth (by simp)) (mp_ne h5 hit (by simp))
  · exact ni4 (mp_ne h6 hwn (by simp)) (mp_ne h6 hov (by simp)) (mp_ne h6 hth (by simp)) (mp_ne h6 hit (by simp))
  · exact ni4 (mp_ne h7 hwn (by simp)) (mp_ne h7 hov (by simp)) (mp_ne h7 hth (by simp)) (mp_ne h7 hit (by simp))
theorem rfA.scr {cA : Nat → ClassId} {M M' : mp} {m0 fb ra wn ov th it td hp bd fl : Nat} {v : Nat → Value} {fh fb2 : Nat → Int64} {ff : Nat → Int32} (h : rfA cA M m0 fb ra wn ov th it td hp bd fl v fh fb2 ff) (hs : scr cA M M' m0 ra v) : ∃ v', rfA cA M' m0 fb ra wn ov th it td hp bd fl v' fh fb2 ff ∧ agS v v' := by
  obtain ⟨hR, ⟨a0, a1, a3, a4, a5, a6, a7, a12, a13, a14⟩, ⟨f, h1, h2⟩, ⟨f0, h3⟩, ⟨⟨fw, fo, hwn, hov, t2⟩, ⟨ft, fi, hth, hit, t3⟩⟩, ⟨fd, h4⟩, h5, h6, h7⟩ := h
  obtain ⟨v', f', b1, b2, b3, hk⟩ := hs
  have kp : ∀ (q : Nat) (e : va_E), M q = some e → e ≠ .inr (9, rL v) → e ≠ .inl (cA 0, 500, .inr (.inl f0)) → M' q = some e := fun q e hq n1 n2 => hk q e hq (ni2 (mp_ne hq hR n1) (mp_ne hq h3 n2))
  exact ⟨v', ⟨b1, ⟨by rw [b2 0 (by decide) (by decide) (by decide) (by decide)]; exact a0, by rw [b2 1 (by decide) (by decide) (by decide) (by decide)]; exact a1, by rw [b2 3 (by decide) (by decide) (by decide) (by decide)]; exact a3, by rw [b2 4 (by decide) (by decide) (by decide) (by decide)]; exact a4, by rw [b2 5 (by decide) (by decide) (by decide) (by decide)]; exact a5, by rw [b2 6 (by decide) (by decide) (by decide) (by decide)]; exact a6, by rw [b2 7 (by decide) (by decide) (by decide) (by decide)]; exact a7, by rw [b2 12 (by decide) (by decide) (by decide) (by decide)]; exact a12, by rw [b2 13 (by decide) (by decide) (by decide) (by decide)]; exact a13, by rw [b2 14 (by decide) (by decide) (by decide) (by decide)]; exact a14⟩, ⟨f, kp _ _ h1 (by simp) (by simp), h2⟩, ⟨f', b3⟩, ⟨⟨fw, fo, kp _ _ hwn (by simp) (by simp), kp _ _ hov (by simp) (by simp), t2⟩, ⟨ft, fi, kp _ _ hth (by simp) (by simp), kp _ _ hit (by simp) (by simp), t3⟩⟩, ⟨fd, kp _ _ h4 (by simp) (by simp)⟩, kp _ _ h5 (by simp) (by simp), kp _ _ h6 (by simp) (by simp), kp _ _ h7 (by simp) (by simp)⟩, b2⟩
theorem rfA.td {cA : Nat → ClassId} {M M' : mp} {m0 fb ra wn ov th it td hp bd fl : Nat} {v : Nat → Value} {fh fb2 : Nat → Int64} {ff : Nat → Int32} (h : rfA cA M m0 fb ra wn ov th it td hp bd fl v fh fb2 ff) (hs : ∃ fd' : Nat → Int32, M' td = some (.inl (cA 2, 3721, .inl fd'))) (hk : kpL M M' [td]) : rfA cA M' m0 fb ra wn ov th it td hp bd fl v fh fb2 ff := by
  obtain ⟨hR, hv, ⟨f, h1, h2⟩, ⟨f0, h3⟩, ⟨⟨fw, fo, hwn, hov, t2⟩, ⟨ft, fi, hth, hit, t3⟩⟩, ⟨fd, h4⟩, h5, h6, h7⟩ := h
  have kp : ∀ (q : Nat) (e : va_E), M q = some e → e ≠ .inl (cA 2, 3721, .inl fd) → M' q = some e := fun q e hq n1 => hk q e hq (ni1 (mp_ne hq h4 n1))
  exact ⟨kp _ _ hR (by simp), hv, ⟨f, kp _ _ h1 (by simp), h2⟩, ⟨f0, kp _ _ h3 (by simp)⟩, ⟨⟨fw, fo, kp _ _ hwn (by simp), kp _ _ hov (by simp), t2⟩, ⟨ft, fi, kp _ _ hth (by simp), kp _ _ hit (by simp), t3⟩⟩, hs, kp _ _ h5 (by simp), kp _ _ h6 (by simp), kp _ _ h7 (by simp)⟩
/-! what may be moved, by the reference's cases -/
def mtQ (g mv : Nat) (hv : Nat → Nat) (bd w n : Nat) : Prop := mv < 200 ∧ (g = 0 → n ≤ hv w ∧ 0 < hv (1 - w) ∧ n % hv (1 - w) = 0) ∧ (g = 2 → n ≤ hv 0 ∧ n ≤ bd) ∧ (g = 1 → (w < 2 → n ≤ hv w) ∧ (¬ w < 2 → n ≤ hv 0 ∧ n ≤ hv 1)) ∧ (g = 3 → (w < 3 → n ≤ hv w) ∧ (¬ w < 3 → n ≤ hv 0 ∧ n ≤ hv 1 ∧ n ≤ hv 2))
theorem mt_q {g mv : Nat} {hv : Nat → Nat} {bd w n : Nat} (hg : g ≤ 3) (hw : w < wyF g) : mtP g mv hv bd w n ↔ mtQ g mv hv bd w n := by
  unfold mtP mtQ
  rcases (show g = 0 ∨ g = 1 ∨ g = 2 ∨ g = 3 by omega) with e | e | e | e <;> subst e
  · have hw2 : w < 2 := hw
    constructor
    · rintro ⟨a, b, c, -⟩
      exact ⟨a, fun _ => ⟨b w hw2 (by unfold tkF; simp), c rfl⟩, fun z => by omega, fun z => by omega, fun z => by omega⟩
    · rintro ⟨a, b, -⟩
      obtain ⟨b1, b2⟩ := b rfl
      refine ⟨a, fun k hk ht => ?_, fun _ => b2, fun z => by omega⟩
      unfold tkF at ht
      have h2 : hcF 0 = 2 := rfl
      rw [h2] at ht
      simp at ht
      rcases ht with z | z
      · rw [← z]; exact b1
      · omega
  · have hw2 : w < 3 := hw
    have h2 : hcF 1 = 2 := rfl
    constructor
    · rintro ⟨a, b, -, -⟩
      refine ⟨a, fun z => by omega, fun z => by omega, fun _ => ⟨fun z => b w z (by unfold tkF; simp), fun z => ?_⟩, fun z => by omega⟩
      exact ⟨b 0 (by decide) (by unfold tkF; simp [h2]; omega), b 1 (by decide) (by unfold tkF; simp [h2]; omega)⟩
    · rintro ⟨a, -, -, b, -⟩
      obtain ⟨b1, b2⟩ := b rfl
      refine ⟨a, fun k hk ht => ?_, fun z => by omega, fun z => by omega⟩
      unfold tkF at ht
      rw [h2] at ht hk
      simp at ht
      rcases ht with z | z
      · rw [← z]; exact b1 (by omega)
      · have := b2 (by omega)
        rcases (show k = 0 ∨ k = 1 by omega) with y | y <;> rw [y]
        · exact this.1
        · exact this.2
  · have hw2 : w < 1 := hw
    have h2 : hcF 2 = 1 := rfl
    constructor
    · rintro ⟨a, b, -, c⟩
      refine ⟨a, fun z => by omega, fun _ => ⟨b 0 (by decide) (by unfold tkF; simp; omega), c rfl⟩, fun z => by omega, fun z => by omega⟩
    · rintro ⟨a, -, b, -⟩
      obtain ⟨b1, b2⟩ := b rfl
      refine ⟨a, fun k hk ht => ?_, fun z => by omega, fun _ => b2⟩
      rw [h2] at hk
      rw [show k = 0 by omega]; exact b1
  · have hw2 : w < 4 := hw
    have h2 : hcF 3 = 3 := rfl
    constructor
    · rintro ⟨a, b, -, -⟩
      refine ⟨a, fun z => by omega, fun z => by omega, fun z => by omega, fun _ => ⟨fun z => b w z (by unfold tkF; simp), fun z => ?_⟩⟩
      exact ⟨b 0 (by decide) (by unfold tkF; simp [h2]; omega), b 1 (by decide) (by unfold tkF; simp [h2]; omega), b 2 (by decide) (by unfold tkF; simp [h2]; omega)⟩
    · rintro ⟨a, -, -, -, b⟩
      obtain ⟨b1, b2⟩ := b rfl
      refine ⟨a, fun k hk ht => ?_, fun z => by omega, fun z => by omega⟩
      unfold tkF at ht
      rw [h2] at ht hk
      simp at ht
      rcases ht with z | z
      · rw [← z]; exact b1 (by omega)
      · have := b2 (by omega)
        rcases (show k = 0 ∨ k = 1 ∨ k = 2 by omega) with y | y | y <;> rw [y]
        · exact this.1
        · exact this.2.1
        · exact this.2.2
theorem mtF_t {g mv : Nat} {hv : Nat → Nat} {bd w : Nat} {x : Int64} (hx : 1 ≤ x) (hg : g ≤ 3) (hw : w < wyF g) (h : mtQ g mv hv bd w (nL x)) : mtF g mv hv bd w x = true := by
  unfold mtF
  rw [decide_eq_true hx, decide_eq_true ((mt_q hg hw).mpr h)]
  rfl
theorem mtF_f {g mv : Nat} {hv : Nat → Nat} {bd w : Nat} {x : Int64} (hg : g ≤ 3) (hw : w < wyF g) (h : ¬ mtQ g mv hv bd w (nL x)) : mtF g mv hv bd w x = false := by
  unfold mtF
  rw [decide_eq_false (p := mtP _ _ _ _ _ _) (fun z => h ((mt_q hg hw).mp z)), Bool.and_false]
theorem mtF_x {g mv : Nat} {hv : Nat → Nat} {bd w : Nat} {x : Int64} (hx : ¬ 1 ≤ x) : mtF g mv hv bd w x = false := by
  unfold mtF
  rw [decide_eq_false hx]
  rfl
theorem mt_ov {g mv : Nat} {hv : Nat → Nat} {bd w : Nat} {x : Int64} (hg : g ≤ 3) (hw : w < wyF g) (h : ovF g hv bd = true) : mtF g mv hv bd w x = false := by
  by_cases hx : 1 ≤ x
  · obtain ⟨-, n1, -⟩ := ge1_nL hx
    refine mtF_f hg hw (fun q => ?_)
    unfold mtQ at q
    obtain ⟨-, q0, q2, q1, q3⟩ := q
    rcases (show g = 0 ∨ g = 1 ∨ g = 2 ∨ g = 3 by omega) with e | e | e | e <;> subst e
    · have hw2 : w < 2 := hw
      have := q0 rfl
      unfold ovF at h
      rw [if_pos rfl] at h
      simp at h
      rcases (show w = 0 ∨ w = 1 by omega) with y | y <;> subst y
      · have z := this.1; have z2 := this.2.1; simp at z2; omega
      · have z := this.1; have z2 := this.2.1; simp at z2; omega
    · have hw2 : w < 3 := hw
      have := q1 rfl
      unfold ovF at h
      simp at h
      rcases (show w = 0 ∨ w = 1 ∨ w = 2 by omega) with y | y | y <;> subst y
      · have z := this.1 (by decide); omega
      · have z := this.1 (by decide); omega
      · have z := this.2 (by decide); omega
    · have := q2 rfl
      unfold ovF at h
      simp at h
      omega
    · have hw2 : w < 4 := hw
      have := q3 rfl
      unfold ovF at h
      simp at h
      rcases (show w = 0 ∨ w = 1 ∨ w = 2 ∨ w = 3 by omega) with y | y | y | y <;> subst y
      · have z := this.1 (by decide); omega
      · have z := this.1 (by decide); omega
      · have z := this.1 (by decide); omega
      · have z := this.2 (by decide); omega
  · exact mtF_x hx
theorem mt_lt {n h k : Nat} (h1 : 1 ≤ n) (h2 : n ≤ h) (h3 : h < k) (h4 : n % k = 0) : False := by
  rw [Nat.mod_eq_of_lt (by omega)] at h4
  omega
