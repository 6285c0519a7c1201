theorem hw.new0 {D : va_G} {M M1 : mp} {H0 H : Heap} {locs : List Loc} (h : hw D M H0 M1 H locs) (hM : mh D M H0) : M H.size = none := by
  cases hm : M H.size with
  | none => rfl
  | some e => exact absurd (hM.lt hm) (Nat.not_lt.mpr h.2.1)
theorem kpL.putN {M0 M M1 : mp} {L : List Nat} {a : Nat} {e : va_E} (h : kpL M0 M L) (e1 : M1 = mu M a e) (ha : M0 a = none) : kpL M0 M1 L := fun q x hq hn => mu_kp e1 (fun z => by rw [z, ha] at hq; cases hq) (h q x hq hn)
/-- cells that the class never writes once they are made -/
def imm (e : va_E) : Prop := match e with
  | .inr (c, _) => c ≠ 4 ∧ c ≠ 9
  | .inl (_, n, .inr (.inl _)) => n = 240 ∨ n = 61 ∨ n = 121
  | _ => False
def kpI (M M' : mp) : Prop := ∀ (q : Nat) (e : va_E), M q = some e → imm e → M' q = some e
theorem kpI.rf (M : mp) : kpI M M := fun _ _ h _ => h
theorem kpI.tr {M M1 M2 : mp} (h : kpI M M1) (h2 : kpI M1 M2) : kpI M M2 := fun q e hq hi => h2 q e (h q e hq hi) hi
theorem kpI.of0 {M M1 : mp} (h : kpL M M1 []) : kpI M M1 := fun q e hq _ => h q e hq (by simp)
theorem kpI.of1 {M M1 : mp} {a : Nat} {x : va_E} (h : kpL M M1 [a]) (ha : M a = some x) (hx : ¬ imm x) : kpI M M1 := fun q e hq hi => h q e hq (ni1 (fun z => by subst z; rw [ha] at hq; cases hq; exact hx hi))
theorem kpI.of2 {M M1 : mp} {a b : Nat} {x y : va_E} (h : kpL M M1 [a, b]) (ha : M a = some x) (hx : ¬ imm x) (hb : M b = some y) (hy : ¬ imm y) : kpI M M1 := fun q e hq hi => h q e hq (ni2 (fun z => by subst z; rw [ha] at hq; cases hq; exact hx hi) (fun z => by subst z; rw [hb] at hq; cases hq; exact hy hi))
theorem sumW.kp {cA : Nat → ClassId} {M M' : mp} {t h0 : Nat} (h : sumW cA M t h0) (hk : kpI M M') : sumW cA M' t h0 := by
  obtain ⟨n0, f, h1, h2, h3⟩ := h
  exact ⟨n0, f, hk _ _ h1 ⟨by decide, by decide⟩, hk _ _ h2 (Or.inl rfl), h3⟩
theorem goldW.kp {cA : Nat → ClassId} {M M' : mp} {go : Nat} (h : goldW cA M go) (hk : kpI M M') : goldW cA M' go := by
  obtain ⟨s2, n0, f, h0, h1, h2, h3⟩ := h
  exact ⟨s2, n0, f, hk _ _ h0 ⟨by decide, by decide⟩, hk _ _ h1 ⟨by decide, by decide⟩, hk _ _ h2 (Or.inl rfl), h3⟩
theorem judW.kp {cA : Nat → ClassId} {M M' : mp} {J TG GO SG BG TM : Nat} (h : judW cA M J TG GO SG BG TM) (hk : kpI M M') : judW cA M' J TG GO SG BG TM := by
  obtain ⟨h1, h2, h3, h4⟩ := h
  exact ⟨hk _ _ h1 ⟨by decide, by decide⟩, hk _ _ h2 ⟨by decide, by decide⟩, hk _ _ h3 ⟨by decide, by decide⟩, h4.kp hk⟩
/-- the sums that were made, by the array SM of TimesGame -/
def smW (cA : Nat → ClassId) (M : mp) (SM : Nat) : Prop := ∃ fs : Nat → Option Nat, M SM = some (.inl (cA 3, 10, .inr (.inr (.inr (.inr fs))))) ∧ ∀ t a, 1 ≤ t → t ≤ 9 → fs t = some a → sumW cA M t a
theorem smW.kp {cA : Nat → ClassId} {M M' : mp} {SM : Nat} (h : smW cA M SM) (hk : kpI M M') (hs : ∀ e, M SM = some e → M' SM = some e) : smW cA M' SM := by
  obtain ⟨fs, h1, h2⟩ := h
  exact ⟨fs, hs _ h1, fun t a h3 h4 h5 => (h2 t a h3 h4 h5).kp hk⟩
theorem cellJ0 (n : Nat) : ∀ cA : ClassId, vp_cell cA (n, .inr (.inl (fun _ => (0 : Int64)))) = arrV cA n (fun _ => defaultValue .long) := fun _ => rfl
theorem cellI0 (n : Nat) : ∀ cA : ClassId, vp_cell cA (n, .inl (fun _ => (0 : Int32))) = arrV cA n (fun _ => defaultValue .int) := fun _ => rfl
theorem cellZ0 (n : Nat) : ∀ cA : ClassId, vp_cell cA (n, .inl (fun _ => (0 : Int32))) = arrV cA n (fun _ => defaultValue .boolean) := fun _ => rfl
