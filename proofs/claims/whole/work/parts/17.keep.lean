/-- what M has stays in M', but for the cells of L -/
def kpL (M M' : mp) (L : List Nat) : Prop := ∀ (q : Nat) (e : va_E), M q = some e → q ∉ L → M' q = some e
theorem kpL.rf (M : mp) (L : List Nat) : kpL M M L := fun _ _ h _ => h
theorem kpL.put {M0 M M1 : mp} {L : List Nat} {a : Nat} {e : va_E} (h : kpL M0 M L) (e1 : M1 = mu M a e) (ha : a ∈ L) : kpL M0 M1 L := fun q x hq hn => mu_kp e1 (fun z => hn (by rw [z]; exact ha)) (h q x hq hn)
theorem kpL.new {D : va_G} {H : Heap} {M0 M M1 : mp} {L : List Nat} {a : Nat} {e : va_E} (h : kpL M0 M L) (hM : mh D M H) (hq : a = H.size) (e1 : M1 = mu M a e) : kpL M0 M1 L := fun q x hq' hn => mu_kp e1 (by rw [hq]; exact hM.ne (h q x hq' hn)) (h q x hq' hn)
theorem kpL.call {M0 M M1 : mp} {L L2 : List Nat} (h : kpL M0 M L) (h2 : kpL M M1 L2) (hs : ∀ x ∈ L2, x ∈ L) : kpL M0 M1 L := fun q x hq hn => h2 q x (h q x hq hn) (fun z => hn (hs q z))
theorem kpL.wk {M M1 : mp} {L L2 : List Nat} (h2 : kpL M M1 L2) (hs : ∀ x ∈ L2, x ∈ L) : kpL M M1 L := (kpL.rf M L).call h2 hs
theorem ni1 {q a : Nat} (h : q ≠ a) : q ∉ [a] := by simpa using h
theorem ni2 {q a b : Nat} (h1 : q ≠ a) (h2 : q ≠ b) : q ∉ [a, b] := by simpa using ⟨h1, h2⟩
theorem ni3 {q a b c : Nat} (h1 : q ≠ a) (h2 : q ≠ b) (h3 : q ≠ c) : q ∉ [a, b, c] := by simpa using ⟨h1, h2, h3⟩
/-- a cell of another kind is another cell -/
theorem kpL.k1 {M M1 : mp} {a q : Nat} {x y : va_E} (h : kpL M M1 [a]) (ha : M a = some x) (hq : M q = some y) (hn : y ≠ x) : M1 q = some y := h q y hq (ni1 (mp_ne hq ha hn))
theorem idx_A {h k : Nat} (hh : h ≤ 1000000000000) (hk : k ≤ 1000000000000) : cutF k < h ↔ k < idxF h := by
  unfold idxF
  rcases Nat.eq_zero_or_pos h with h0 | h0
  · subst h0; simp
  · rw [if_neg (by omega)]
    have hge := cut_ge (k := h) (by omega)
    rcases Nat.eq_zero_or_pos k with k0 | k0
    · subst k0; rw [cut_0]; omega
    · have g := cut_G (r := k) (q := h) k0 h0 (by omega) (by omega)
      constructor
      · intro z
        rcases Nat.lt_or_ge k (cutF h - h + 1) with y | y
        · exact y
        · have := g.mpr (by omega); omega
      · intro z
        rcases Nat.lt_or_ge (cutF k) h with y | y
        · exact y
        · have := g.mp y; omega
theorem idx_B {h k : Nat} (hh : h ≤ 1000000000000) (hk : k ≤ 1000000000000) : cutF k + k < h ↔ k < 2 * h - cutF h := by
  rcases Nat.eq_zero_or_pos h with h0 | h0
  · subst h0; simp
  · have hl2 := cut_lt2 (q := h) h0 (by omega)
    rcases Nat.eq_zero_or_pos k with k0 | k0
    · subst k0; rw [cut_0]; omega
    · have g := cut_G2 (r := k) (h := h) k0 h0 (by omega) (by omega)
      constructor
      · intro z
        rcases Nat.lt_or_ge k (2 * h - cutF h) with y | y
        · exact y
        · have := g.mpr (by omega); omega
      · intro z
        rcases Nat.lt_or_ge (cutF k + k) h with y | y
        · exact y
        · have := g.mp y; omega
theorem idx_le {h : Nat} (hh : h ≤ 1000000000000) : idxF h ≤ h := by
  rcases Nat.lt_or_ge h (idxF h) with y | y
  · have := (idx_A (h := h) (k := h) hh hh).mpr y
    have := cut_ge (k := h) (by omega)
    omega
  · exact y
theorem mid_lN {lo hi : Nat} (h : lo ≤ hi) (hb : hi ≤ 1000000000000) : lN lo + lN (hi - lo) / lN 2 = lN (lo + (hi - lo) / 2) := by
  rw [pk_lDiv (by omega) (by omega) (by omega), lN_add]
def agr (v v' : Nat → Value) : Prop := ∀ k, k ≠ 15 → k ≠ 16 → v' k = v k
theorem prt_ref {h : Nat} (hh : h ≤ 1000000000000) : (isLF h = true → h + idF h = prtF h) ∧ (isLF h = false → h - idF h = prtF h ∧ idF h ≤ h) := by
  have h1 := cut_ge (k := h) (by omega)
  have h2 := cut_le (k := h) (by omega)
  unfold idF prtF
  constructor
  · intro z; rw [z]; rfl
  · intro z; rw [z]; simp; omega
