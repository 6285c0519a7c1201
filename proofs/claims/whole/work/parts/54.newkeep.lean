/-- cells that are never written once made stay, but for objects of the class k -/
def kpN (k : Nat) (M M' : mp) : Prop := ∀ (q : Nat) (e : va_E), M q = some e → imm e → (∀ fs, e ≠ .inr (k, fs)) → M' q = some e
theorem kpN.p1 {k : Nat} {M M1 : mp} {a : Nat} {x y : va_E} (e1 : M1 = mu M a y) (ha : M a = some x) (hx : (∃ fs, x = .inr (k, fs)) ∨ ¬ imm x) : kpN k M M1 := fun q e hq hi hn => mu_kp e1 (fun z => by subst z; rw [ha] at hq; cases hq; rcases hx with ⟨fs, h⟩ | h; exact hn fs h; exact h hi) hq
theorem kpN.n1 {k : Nat} {M M1 : mp} {a : Nat} {y : va_E} (e1 : M1 = mu M a y) (ha : M a = none) : kpN k M M1 := fun q e hq hi hn => mu_kp e1 (fun z => by subst z; rw [ha] at hq; cases hq) hq
theorem kpN.l1 {k : Nat} {M M1 : mp} {a : Nat} {x : va_E} (h : kpL M M1 [a]) (ha : M a = some x) (hx : (∃ fs, x = .inr (k, fs)) ∨ ¬ imm x) : kpN k M M1 := fun q e hq hi hn => h q e hq (ni1 (fun z => by subst z; rw [ha] at hq; cases hq; rcases hx with ⟨fs, h⟩ | h; exact hn fs h; exact h hi))
theorem rne {c k : Nat} {a : List Value} (h : c ≠ k) (fs : List Value) : (Sum.inr (c, a) : va_E) ≠ .inr (k, fs) := fun z => by cases z; exact h rfl
theorem sumW.kN {k : Nat} {cA : Nat → ClassId} {M M' : mp} {t h0 : Nat} (h : sumW cA M t h0) (hk : kpN k M M') (h6 : 6 ≠ k) : sumW cA M' t h0 := by
  obtain ⟨n0, f, h1, h2, h3⟩ := h
  exact ⟨n0, f, hk _ _ h1 ⟨by decide, by decide⟩ (rne h6), hk _ _ h2 (Or.inl rfl) (fun _ z => by cases z), h3⟩
theorem smW.kN {k : Nat} {cA : Nat → ClassId} {M M' : mp} {SM : Nat} (h : smW cA M SM) (hk : kpN k M M') (h6 : 6 ≠ k) (hs : ∀ e, M SM = some e → M' SM = some e) : smW cA M' SM := by
  obtain ⟨fs, h1, h2⟩ := h
  exact ⟨fs, hs _ h1, fun t a h3 h4 h5 => (h2 t a h3 h4 h5).kN hk h6⟩
theorem smW.p1 {k : Nat} {cA : Nat → ClassId} {M M1 : mp} {SM a : Nat} {x y : va_E} (h : smW cA M SM) (e1 : M1 = mu M a y) (ha : M a = some x) (hx : (∃ fs, x = .inr (k, fs)) ∨ ¬ imm x) (h6 : 6 ≠ k) (hr : nref x) : smW cA M1 SM := by
  obtain ⟨fs, hSM, -⟩ := id h
  exact h.kN (kpN.p1 e1 ha hx) h6 (fun e he => mu_kp e1 (fun z => by subst z; rw [ha] at hSM; cases hSM; exact hr) he)
theorem smW.l1 {k : Nat} {cA : Nat → ClassId} {M M1 : mp} {SM a : Nat} {x : va_E} (h : smW cA M SM) (e1 : kpL M M1 [a]) (ha : M a = some x) (hx : (∃ fs, x = .inr (k, fs)) ∨ ¬ imm x) (h6 : 6 ≠ k) (hr : nref x) : smW cA M1 SM := by
  obtain ⟨fs, hSM, -⟩ := id h
  exact h.kN (kpN.l1 e1 ha hx) h6 (fun e he => e1 _ _ he (ni1 (fun z => by subst z; rw [ha] at hSM; cases hSM; exact hr)))
theorem smW.n1 {cA : Nat → ClassId} {M M1 : mp} {SM a : Nat} {y : va_E} (h : smW cA M SM) (e1 : M1 = mu M a y) (ha : M a = none) : smW cA M1 SM := h.kN (kpN.n1 (k := 0) e1 ha) (by decide) (fun e he => mu_kp e1 (fun z => by subst z; rw [ha] at he; cases he) he)
theorem tab2.kN {cA : Nat → ClassId} {M M' : mp} {g : Nat} {mi : Bool} {lt : Nat} (h : tab2 cA M g mi lt) (hk : kpN 8 M M') : tab2 cA M' g mi lt := by
  obtain ⟨la, f, h1, h2, h3⟩ := h
  exact ⟨la, f, hk _ _ h1 ⟨by decide, by decide⟩ (rne (by decide)), hk _ _ h2 (Or.inr (Or.inl rfl)) (fun _ z => by cases z), h3⟩
theorem tab3.kN {cA : Nat → ClassId} {M M' : mp} {mi : Bool} {lt : Nat} (h : tab3 cA M mi lt) (hk : kpN 8 M M') : tab3 cA M' mi lt := by
  obtain ⟨la, f, h1, h2, h3⟩ := h
  exact ⟨la, f, hk _ _ h1 ⟨by decide, by decide⟩ (rne (by decide)), hk _ _ h2 (Or.inr (Or.inr rfl)) (fun _ z => by cases z), h3⟩
theorem tmW.kN {cA : Nat → ClassId} {M M' : mp} {TM : Nat} (h : tmW cA M TM) (hk : kpN 8 M M') (hs : ∀ e, M TM = some e → M' TM = some e) : tmW cA M' TM := by
  obtain ⟨ft, h1, h2, h3⟩ := h
  exact ⟨ft, hs _ h1, fun g mi a q w => (h2 g mi a q w).kN hk, fun mi a w => (h3 mi a w).kN hk⟩
theorem judW.kN {cA : Nat → ClassId} {M M' : mp} {J TG GO SG BG TM : Nat} (h : judW cA M J TG GO SG BG TM) (hk : kpN 8 M M') : judW cA M' J TG GO SG BG TM := by
  obtain ⟨h1, h2, h3, ⟨s2, n2, f, g1, g2, g3, g4⟩⟩ := h
  exact ⟨hk _ _ h1 ⟨by decide, by decide⟩ (rne (by decide)), hk _ _ h2 ⟨by decide, by decide⟩ (rne (by decide)), hk _ _ h3 ⟨by decide, by decide⟩ (rne (by decide)), ⟨s2, n2, f, hk _ _ g1 ⟨by decide, by decide⟩ (rne (by decide)), hk _ _ g2 ⟨by decide, by decide⟩ (rne (by decide)), hk _ _ g3 (Or.inl rfl) (fun _ z => by cases z), g4⟩⟩
theorem jdW.kX {cA : Nat → ClassId} {M M1 : mp} {J TG GO SG BG TM SM a : Nat} {fs : List Value} {y : va_E} (h : jdW cA M J TG GO SG BG TM SM) (e1 : M1 = mu M a y) (ha : M a = some (.inr (8, fs))) : jdW cA M1 J TG GO SG BG TM SM := by
  have hk : kpN 8 M M1 := kpN.p1 e1 ha (Or.inl ⟨fs, rfl⟩)
  obtain ⟨h1, h2, h3, h4⟩ := h
  obtain ⟨f3, hSM, -⟩ := id h3
  obtain ⟨f4, hTM, -⟩ := id h4
  exact ⟨h1.kN hk, hk _ _ h2 ⟨by decide, by decide⟩ (rne (by decide)), h3.kN hk (by decide) (fun e he => mu_kp e1 (mp_ne hSM ha (by simp)) he), h4.kN hk (fun e he => mu_kp e1 (mp_ne hTM ha (by simp)) he)⟩
theorem pw.kX {cA : Nat → ClassId} {M M1 : mp} {P J PH WM MT WF g t mv : Nat} {mi : Bool} {hv wh ma : Nat → Nat} {fa : Nat → Bool} {a : Nat} {fs : List Value} {y : va_E} (h : pw cA M P J PH WM MT WF g t mv mi hv wh ma fa) (e1 : M1 = mu M a y) (ha : M a = some (.inr (8, fs))) : pw cA M1 P J PH WM MT WF g t mv mi hv wh ma fa := by
  obtain ⟨fh, fw, fm, fz, h1, h2, h3, h4, h5, h6⟩ := h
  exact ⟨fh, fw, fm, fz, mu_kp e1 (mp_ne h1 ha (by simp)) h1, mu_kp e1 (mp_ne h2 ha (by simp)) h2, mu_kp e1 (mp_ne h3 ha (by simp)) h3, mu_kp e1 (mp_ne h4 ha (by simp)) h4, mu_kp e1 (mp_ne h5 ha (by simp)) h5, h6⟩
theorem tmW.no {cA : Nat → ClassId} {M : mp} {TM : Nat} (h : M TM = some (.inl (cA 4, 8, .inr (.inr (.inr (.inr (fun _ => Option.none))))))) : tmW cA M TM := by
  refine ⟨fun _ => Option.none, h, ?_, ?_⟩
  · intro g mi a hg z
    simp at z
  · intro mi a z
    simp at z
theorem kpL.nn {M M1 : mp} {a q : Nat} {x : va_E} (h : kpL M M1 [a]) (ha : M1 a = some x) (hq : M1 q = none) : M q = none := by
  cases hm : M q with
  | none => rfl
  | some e =>
    by_cases z : q = a
    · subst z; rw [ha] at hq; cases hq
    · rw [h q e hm (ni1 z)] at hq; cases hq
theorem rl_of (l : List Value) (h : l.length = 18) : ∃ v, l = rL v ∧ ∀ k, v k = l.getD k .null := by
  refine ⟨fun k => l.getD k .null, ?_, fun _ => rfl⟩
  match l, h with
  | [_, _, _, _, _, _, _, _, _, _, _, _, _, _, _, _, _, _], _ => rfl
