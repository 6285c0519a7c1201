def nref (e : va_E) : Prop := match e with
  | .inl (_, _, .inr (.inr (.inr (.inr _)))) => False
  | _ => True
theorem jdW.k1 {cA : Nat → ClassId} {M M1 : mp} {J TG GO SG BG TM SM a : Nat} {x : va_E} (h : jdW cA M J TG GO SG BG TM SM) (hk : kpL M M1 [a]) (ha : M a = some x) (hx : ¬ imm x) (hr : nref x) : jdW cA M1 J TG GO SG BG TM SM := by
  obtain ⟨fs, hSM, -⟩ := id h.2.2.1
  obtain ⟨ft, hTM, -⟩ := id h.2.2.2
  exact h.kp (kpI.of1 hk ha hx) (fun e he => hk SM e he (ni1 (fun z => by rw [z, ha] at hSM; cases hSM; exact hr))) (fun e he => hk TM e he (ni1 (fun z => by rw [z, ha] at hTM; cases hTM; exact hr)))
theorem jdW.put {cA : Nat → ClassId} {M M1 : mp} {J TG GO SG BG TM SM a : Nat} {x y : va_E} (h : jdW cA M J TG GO SG BG TM SM) (ha : M a = some x) (hx : ¬ imm x) (hr : nref x) (e1 : M1 = mu M a y) : jdW cA M1 J TG GO SG BG TM SM := h.k1 ((kpL.rf M [a]).put e1 (by simp)) ha hx hr
theorem lN_neg {a b : Nat} (h : b ≤ a) : lN a + -lN b = lN (a - b) := by rw [← Int64.sub_eq_add_neg]; exact lN_sub h
def hv0 (g a b c : Nat) : Nat → Nat := fun k => if k = 0 then a else if k = 1 then (if g = 2 then 0 else b) else (if g = 3 then c else 0)
/-- what the class tells of the BOARD -/
def tlV (g : Nat) (mi : Bool) (t mv : Nat) (hv : Nat → Nat) (bd : Nat) (fc : Nat) (w : Int32) : Int64 := if w = 0 then lN (hv 0) else if w = 1 then lN (hv 1) else if w = 2 then lN (hv 2) else if w = 3 then lN bd else if w = 4 then lN mv else if w = 5 then (bI (wnF g mi t hv bd)).toInt64 else if w = 6 then lN (mv % 2) else if w = 7 then lN fc else if w = 8 then lN g else -2
theorem hvT_okB {g t w n : Nat} {mi : Bool} {hv : Nat → Nat} (h : okB g t mi hv) : okB g t mi (hvT g w n hv) := by
  obtain ⟨h1, h2, h3, h4, h5, h6⟩ := h
  have hle : ∀ k, hvT g w n hv k ≤ hv k := fun k => by unfold hvT; split <;> omega
  refine ⟨h1, fun k => Nat.le_trans (hle k) (h2 k), h3, h4, fun a b => ?_, fun a => ?_⟩
  · have := h5 a b; have := hle 0; have := hle 1; omega
  · have := h6 a; have := hle 0; have := hle 1; have := hle 2; omega
theorem sw_i {w : Int32} {k : Nat} (hk : k < 2 ^ 31) (h : w.toInt = (k : Int)) : w = nI k := by
  apply Int32.toInt_inj.mp
  rw [nI_toInt hk]; exact h
