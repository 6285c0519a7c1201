theorem anB_t {p : Nat → Bool} : ∀ n, anB p n = true ↔ ∃ x, 1 ≤ x ∧ x ≤ n ∧ p x = true
  | 0 => by
    constructor
    · intro h; cases h
    · intro ⟨x, h1, h2, _⟩; omega
  | n + 1 => by
    show (anB p n || p (n + 1)) = true ↔ _
    rw [Bool.or_eq_true, anB_t n]
    constructor
    · rintro (⟨x, h1, h2, h3⟩ | h)
      · exact ⟨x, h1, by omega, h3⟩
      · exact ⟨n + 1, by omega, by omega, h⟩
    · rintro ⟨x, h1, h2, h3⟩
      by_cases e : x = n + 1
      · right; rw [← e]; exact h3
      · left; exact ⟨x, h1, by omega, h3⟩
def stT (t h x : Nat) : Bool := !tbF t (h - x) (min (t * x) 60)
theorem tb_rec {t h c : Nat} (h1 : 1 ≤ t) (h9 : t ≤ 9) (hh : h ≤ 60) (hc : c ≤ 60) : anB (stT t h) (min c h) = tbF t h c := by
  have e0 := le_0 t (by omega) h1
  cases hb : tbF t h c with
  | true =>
    have hle : leN t h ≤ c := of_decide_eq_true hb
    have hp : 1 ≤ h := by
      rcases Nat.eq_zero_or_pos h with e | e
      · rw [e, e0] at hle; omega
      · exact e
    have hla := le_a t (by omega) h1 h (by omega) hp
    rw [anB_t]
    refine ⟨leN t h, hla.1, by omega, ?_⟩
    unfold stT tbF
    rw [Bool.not_eq_true', decide_eq_false_iff_not]
    rcases Nat.lt_or_ge (leN t h) h with g | g
    · have := le_c t (by omega) h1 h (by omega) g; omega
    · rw [show h - leN t h = 0 by omega, e0]; omega
  | false =>
    have hgt : ¬ leN t h ≤ c := of_decide_eq_false hb
    cases ha : anB (stT t h) (min c h) with
    | false => rfl
    | true =>
      obtain ⟨x, x1, x2, x3⟩ := (anB_t _).mp ha
      unfold stT tbF at x3
      rw [Bool.not_eq_true', decide_eq_false_iff_not] at x3
      have hla := le_a t (by omega) h1 h (by omega) (by omega)
      have hb2 := le_b t (by omega) h1 h (by omega) x (by omega) (by omega) x1
      have hla2 := le_a t (by omega) h1 (h - x) (by omega) (by omega)
      omega
def upR (t h c : Nat) (f : Nat → Int32) : Prop := ∀ h' c', h' ≤ 60 → c' ≤ 60 → (h' < h ∨ (h' = h ∧ c' < c)) → f (61 * h' + c') = bI (tbF t h' c')
theorem upR.nxt {t h c : Nat} {f : Nat → Int32} (q : upR t h c f) (hc : c ≤ 60) : upR t h (c + 1) (upd f (61 * h + c) (bI (tbF t h c))) := by
  intro h' c' a1 a2 hor
  by_cases e : h' = h ∧ c' = c
  · rw [e.1, e.2, pk_us]
  · rw [pk_un (by omega)]; exact q h' c' a1 a2 (by omega)
theorem upR.row {t h c : Nat} {f : Nat → Int32} (q : upR t h c f) (hc : 60 < c) : upR t (h + 1) 0 f := fun h' c' a1 a2 hor => q h' c' a1 a2 (by omega)
