/-! the law: two maps beside each other, the class's and the reference's -/
def no : mp := fun _ => none
def h2 (D : va_G) (H0 : Heap) (MA MB : mp) (H : Heap) (locs : List Loc) : Prop := hw D no H0 MA H locs ∧ hw D no H0 MB H locs ∧ ∀ q, MB q ≠ none → MA q = none
theorem h2.sw {D : va_G} {H0 : Heap} {MA MB : mp} {H : Heap} {locs : List Loc} (h : h2 D H0 MA MB H locs) : h2 D H0 MB MA H locs := by
  refine ⟨h.2.1, h.1, fun q hq => ?_⟩
  cases hm : MB q with
  | none => rfl
  | some e => exact absurd (h.2.2 q (by rw [hm]; simp)) hq
theorem h2.A {D : va_G} {H0 : Heap} {MA MB MA1 : mp} {H H1 : Heap} {locs locs1 : List Loc} (h : h2 D H0 MA MB H locs) (g : hw D no H0 MA1 H1 locs1) (hk : ∀ q, q < H.size → MA q = none → H1[q]? = H[q]?) (hn : ∀ q, MA1 q ≠ none → MA q ≠ none ∨ H.size ≤ q) : h2 D H0 MA1 MB H1 locs1 := by
  obtain ⟨hA, hB, hd⟩ := h
  refine ⟨g, ⟨fun q e hq => ?_, g.2.1, g.2.2.1, hB.2.2.2.1, g.2.2.2.2⟩, fun q hq => ?_⟩
  · exact (hB.1 q e hq).kept (hk q (hB.1.lt hq) (hd q (by rw [hq]; simp)))
  · cases hm : MA1 q with
    | none => rfl
    | some e =>
      cases hb : MB q with
      | none => exact absurd hb hq
      | some e2 =>
        rcases hn q (by rw [hm]; simp) with z | z
        · exact absurd (hd q hq) z
        · exact absurd (hB.1.lt hb) (by omega)
theorem h2.B {D : va_G} {H0 : Heap} {MA MB MB1 : mp} {H H1 : Heap} {locs locs1 : List Loc} (h : h2 D H0 MA MB H locs) (g : hw D no H0 MB1 H1 locs1) (hk : ∀ q, q < H.size → MB q = none → H1[q]? = H[q]?) (hn : ∀ q, MB1 q ≠ none → MB q ≠ none ∨ H.size ≤ q) : h2 D H0 MA MB1 H1 locs1 := (h.sw.A g hk hn).sw
theorem h2.S {D : va_G} {H0 : Heap} {MA MB : mp} {H : Heap} {locs : List Loc} (h : h2 D H0 MA MB H locs) : va_S (fun q : Nat => H0.size ≤ q) H0 H locs := ⟨h.1.2.1, fun q hq _ => h.1.2.2.1 q hq rfl, fun l hl => (h.1.2.2.2.2 l hl).resolve_left (fun z => z rfl)⟩
theorem h2.sp {D : va_G} {H0 : Heap} {M M2 : mp} {a : Nat} {e : va_E} {H : Heap} {locs : List Loc} (h : hw D no H0 M2 H locs) (e1 : M2 = mu M a e) (ha : M a = none) : h2 D H0 M (mu no a e) H locs := by
  have hk : ∀ q x, M q = some x → M2 q = some x := fun q x hq => mu_kp e1 (fun z => by subst z; rw [ha] at hq; cases hq) hq
  have hb : ∀ q x, mu no a e q = some x → q = a ∧ x = e := fun q x hq => by
    by_cases z : q = a
    · subst z; rw [mu_eq] at hq; cases hq; exact ⟨rfl, rfl⟩
    · rw [mu_ne z] at hq; cases hq
  refine ⟨⟨fun q x hq => h.1 q x (hk q x hq), h.2.1, h.2.2.1, fun q hq => ?_, h.2.2.2.2⟩, ⟨fun q x hq => ?_, h.2.1, h.2.2.1, fun q hq => ?_, h.2.2.2.2⟩, fun q hq => ?_⟩
  · cases hm : M q with
    | none => exact absurd hm hq
    | some x => exact h.2.2.2.1 q (by rw [hk q x hm]; simp)
  · obtain ⟨rfl, rfl⟩ := hb q x hq
    exact h.1 q x (mu_at e1)
  · cases hm : mu no a e q with
    | none => exact absurd hm hq
    | some x => obtain ⟨rfl, rfl⟩ := hb q x hm; exact h.2.2.2.1 q (by rw [mu_at e1]; simp)
  · cases hm : mu no a e q with
    | none => exact absurd hm hq
    | some x => obtain ⟨rfl, rfl⟩ := hb q x hm; exact ha
/-- the class's state -/
def clW (cA : Nat → ClassId) (M : mp) (x g t mv : Nat) (mi : Bool) (hv wh ma : Nat → Nat) (fa : Nat → Bool) : Prop := ∃ J P TG GO SG BG TM SM PH WM MT WF, M x = some (.inr (8, [.ref J, .ref P])) ∧ jdW cA M J TG GO SG BG TM SM ∧ pw cA M P J PH WM MT WF g t mv mi hv wh ma fa
section ClK
variable {cA : Nat → ClassId} {M M' : mp} {x J P TG GO SG BG TM SM PH WM MT WF g t mv : Nat} {mi : Bool} {hv wh ma : Nat → Nat} {fa : Nat → Bool}
theorem cl_ST (hx0 : M x = some (.inr (8, [.ref J, .ref P]))) (hJD : jdW cA M J TG GO SG BG TM SM) (hpw : pw cA M P J PH WM MT WF g t mv mi hv wh ma fa) (hJ1 : jdW cA M' J TG GO SG BG TM SM) (hk : kpL M M' [SM, TM]) : clW cA M' x g t mv mi hv wh ma fa := by
  obtain ⟨fs, hSM, -⟩ := id hJD.2.2.1
  obtain ⟨ft, hTM, -⟩ := id hJD.2.2.2
  exact ⟨J, P, TG, GO, SG, BG, TM, SM, PH, WM, MT, WF, hk _ _ hx0 (ni2 (mp_ne hx0 hSM (by simp)) (mp_ne hx0 hTM (by simp))), hJ1, hpw.kp hSM hTM hk⟩
theorem cl_S (hx0 : M x = some (.inr (8, [.ref J, .ref P]))) (hJD : jdW cA M J TG GO SG BG TM SM) (hpw : pw cA M P J PH WM MT WF g t mv mi hv wh ma fa) (hW : smW cA M' SM) (hk : kpL M M' [SM]) : clW cA M' x g t mv mi hv wh ma fa := by
  obtain ⟨fs, hSM, -⟩ := id hJD.2.2.1
  obtain ⟨ft, hTM, -⟩ := id hJD.2.2.2
  have hkI : kpI M M' := kpI.of1 hk hSM (fun z => z)
  exact cl_ST hx0 hJD hpw ⟨hJD.1.kp hkI, hkI _ _ hJD.2.1 ⟨by decide, by decide⟩, hW, hJD.2.2.2.kp hkI (fun e he => hk _ _ he (ni1 (mp_ne hTM hSM (by simp))))⟩ (hk.wk (by simp))
theorem cl_T (hx0 : M x = some (.inr (8, [.ref J, .ref P]))) (hJD : jdW cA M J TG GO SG BG TM SM) (hpw : pw cA M P J PH WM MT WF g t mv mi hv wh ma fa) (hJ1 : jdW cA M' J TG GO SG BG TM SM) (hk : kpL M M' [TM]) : clW cA M' x g t mv mi hv wh ma fa := cl_ST hx0 hJD hpw hJ1 (hk.wk (by simp))
theorem cl_0 (hx0 : M x = some (.inr (8, [.ref J, .ref P]))) (hJD : jdW cA M J TG GO SG BG TM SM) (hpw : pw cA M P J PH WM MT WF g t mv mi hv wh ma fa) (hk : kpL M M' []) : clW cA M' x g t mv mi hv wh ma fa := cl_ST hx0 hJD hpw (hJD.kn hk) (hk.wk (by simp))
theorem pw.cg {hv' : Nat → Nat} (h : pw cA M P J PH WM MT WF g t mv mi hv wh ma fa) (he : ∀ k, k < 3 → hv k = hv' k) : pw cA M P J PH WM MT WF g t mv mi hv' wh ma fa := by
  obtain ⟨fh, fw, fm, fz, h1, h2, h3, h4, h5, h6, h7, h8⟩ := h
  exact ⟨fh, fw, fm, fz, h1, h2, h3, h4, h5, h6, fun k hk => by rw [h7 k hk, he k hk], h8⟩
end ClK
/-- the reference's state, with its history -/
def rfW (cA : Nat → ClassId) (M : mp) (m0 g t mv : Nat) (mi : Bool) (hs : Nat → Nat → Nat) (bs fc : Nat → Nat) : Prop := ∃ fb ra wn ov th it td hp bd fl v fh fb2 ff, rfA cA M m0 fb ra wn ov th it td hp bd fl v fh fb2 ff ∧ v 8 = .int (nI g) ∧ v 9 = .int (bI mi) ∧ v 10 = .int (nI t) ∧ v 11 = .int (nI mv) ∧ (∀ j, j ≤ mv → ∀ k, k < 3 → fh (3 * j + k) = lN (hs j k)) ∧ (∀ j, j ≤ mv → fb2 j = lN (bs j)) ∧ (∀ j, j ≤ mv → ff j = nI (fc j))
theorem rf_ag {cA : Nat → ClassId} {M' : mp} {m0 fb ra wn ov th it td hp bd fl g t mv : Nat} {mi : Bool} {v v' : Nat → Value} {fh fb2 : Nat → Int64} {ff : Nat → Int32} {hs : Nat → Nat → Nat} {bs fc : Nat → Nat} (hA : rfA cA M' m0 fb ra wn ov th it td hp bd fl v' fh fb2 ff) (hag : agS v v') (hv8 : v 8 = .int (nI g)) (hv9 : v 9 = .int (bI mi)) (hv10 : v 10 = .int (nI t)) (hv11 : v 11 = .int (nI mv)) (hfh : ∀ j, j ≤ mv → ∀ k, k < 3 → fh (3 * j + k) = lN (hs j k)) (hfb : ∀ j, j ≤ mv → fb2 j = lN (bs j)) (hff : ∀ j, j ≤ mv → ff j = nI (fc j)) : rfW cA M' m0 g t mv mi hs bs fc :=
  ⟨fb, ra, wn, ov, th, it, td, hp, bd, fl, v', fh, fb2, ff, hA, hag.at hv8 (by decide) (by decide) (by decide) (by decide), hag.at hv9 (by decide) (by decide) (by decide) (by decide), hag.at hv10 (by decide) (by decide) (by decide) (by decide), hag.at hv11 (by decide) (by decide) (by decide) (by decide), hfh, hfb, hff⟩
theorem rf_0 {cA : Nat → ClassId} {M M' : mp} {m0 fb ra wn ov th it td hp bd fl : Nat} {v : Nat → Value} {fh fb2 : Nat → Int64} {ff : Nat → Int32} (h : rfA cA M m0 fb ra wn ov th it td hp bd fl v fh fb2 ff) (hk : kpL M M' []) : rfA cA M' m0 fb ra wn ov th it td hp bd fl v fh fb2 ff := by
  obtain ⟨hR, hv, ⟨f, h1, h2⟩, ⟨f0, h3⟩, ⟨⟨fw, fo, hwn, hov, t2⟩, ⟨ft, fi, hth, hit, t3⟩⟩, ⟨fd, h4⟩, h5, h6, h7⟩ := h
  have kp : ∀ (q : Nat) (e : va_E), M q = some e → M' q = some e := fun q e hq => hk q e hq (by simp)
  exact ⟨kp _ _ hR, hv, ⟨f, kp _ _ h1, h2⟩, ⟨f0, kp _ _ h3⟩, ⟨⟨fw, fo, kp _ _ hwn, kp _ _ hov, t2⟩, ⟨ft, fi, kp _ _ hth, kp _ _ hit, t3⟩⟩, ⟨fd, kp _ _ h4⟩, kp _ _ h5, kp _ _ h6, kp _ _ h7⟩
/-- the board's own history: what stood before each move, what was taken, where -/
def BI (g t mv : Nat) (mi : Bool) (hs : Nat → Nat → Nat) (wh ma : Nat → Nat) : Prop := mv ≤ 200 ∧ (∀ j, j ≤ mv → okB g t mi (hs j)) ∧ (∀ j, ma j ≤ 1000000000000) ∧ ∀ j, j < mv → wh j ≤ 3 ∧ ∀ k, k < 3 → hvB g (wh j) (ma j) (hs (j + 1)) k = hs j k
def bsF (g t : Nat) (hs : Nat → Nat → Nat) (ma : Nat → Nat) : Nat → Nat := fun j => bdV g t j (hs j 0) (ma (j - 1))
def lwI (cA : Nat → ClassId) (MA MB : mp) (x m0 : Nat) : Prop := ∃ g t mv mi hs wh ma fa, BI g t mv mi hs wh ma ∧ clW cA MA x g t mv mi (hs mv) wh ma fa ∧ rfW cA MB m0 g t mv mi hs (bsF g t hs ma) (fcF fa)
theorem BI.bs {g t mv : Nat} {mi : Bool} {hs : Nat → Nat → Nat} {wh ma : Nat → Nat} (h : BI g t mv mi hs wh ma) : bsF g t hs ma mv ≤ 1000000000000 := bdV_le ((h.2.1 mv (Nat.le_refl _)).2.1 0)
theorem hvB_hvT {g w n k : Nat} {hv : Nat → Nat} (h : k < hcF g → tkF g w k = true → n ≤ hv k) : hvB g w n (hvT g w n hv) k = hv k := by
  unfold hvB
  split
  · rename_i z; rw [hvT_t z.1 z.2, Nat.sub_add_cancel (h z.1 z.2)]
  · rename_i z; exact hvT_f z
theorem BI.mv {g t mv w n bd : Nat} {mi : Bool} {hs : Nat → Nat → Nat} {wh ma : Nat → Nat} (h : BI g t mv mi hs wh ma) (hw : w < wyF g) (hm : mtP g mv (hs mv) bd w n) : BI g t (mv + 1) mi (va_up hs (mv + 1) (hvT g w n (hs mv))) (va_up wh mv w) (va_up ma mv n) := by
  obtain ⟨h1, h2, h3, h4⟩ := h
  have hok := h2 mv (Nat.le_refl _)
  refine ⟨hm.1, fun j hj => ?_, fun j => ?_, fun j hj => ?_⟩
  · by_cases e : j = mv + 1
    · rw [e, va_up_self]; exact hvT_okB hok
    · rw [va_up_ne _ _ e]; exact h2 j (by omega)
  · by_cases e : j = mv
    · rw [e, va_up_self]; exact mt_le hw hok.1 hm hok.2.1
    · rw [va_up_ne _ _ e]; exact h3 j
  · by_cases e : j = mv
    · subst e
      rw [va_up_self, va_up_self, va_up_self, va_up_ne _ _ (by omega)]
      exact ⟨by have : wyF g ≤ 4 := (by unfold wyF; split <;> (try split) <;> (try split) <;> omega); omega, fun k _ => hvB_hvT (hm.2.1 k)⟩
    · rw [va_up_ne _ _ e, va_up_ne _ _ e, va_up_ne _ _ (by omega), va_up_ne _ _ (by omega)]
      exact h4 j (by omega)
theorem fcF_cg {fa fa' : Nat → Bool} : ∀ n, (∀ i, i < n → fa i = fa' i) → fcF fa n = fcF fa' n
  | 0, _ => rfl
  | n + 1, h => by
    show fcF fa n + bN (fa n) = fcF fa' n + bN (fa' n)
    rw [fcF_cg n (fun i hi => h i (by omega)), h n (by omega)]
theorem bsF_up {g t mv n j : Nat} {hs : Nat → Nat → Nat} {ma X : Nat → Nat} (hj : j ≤ mv) : bsF g t (va_up hs (mv + 1) X) (va_up ma mv n) j = bsF g t hs ma j := by
  unfold bsF
  rw [va_up_ne _ _ (by omega)]
  by_cases e : j = 0
  · subst e; unfold bdV; rfl
  · rw [va_up_ne _ _ (by omega)]
theorem bsF_at {g t mv n : Nat} {hs : Nat → Nat → Nat} {ma X : Nat → Nat} : bsF g t (va_up hs (mv + 1) X) (va_up ma mv n) (mv + 1) = bdV g t (mv + 1) (X 0) n := by
  unfold bsF
  rw [va_up_self, show mv + 1 - 1 = mv from rfl, va_up_self]
theorem fcF_up {fa : Nat → Bool} {mv j : Nat} {b : Bool} (hj : j ≤ mv) : fcF (va_up fa mv b) j = fcF fa j := fcF_cg j (fun i hi => va_up_ne _ _ (by omega))
theorem fcF_at {fa : Nat → Bool} {mv : Nat} {b : Bool} : fcF (va_up fa mv b) (mv + 1) = fcF fa mv + bN b := by
  show fcF (va_up fa mv b) mv + bN (va_up fa mv b mv) = _
  rw [fcF_up (Nat.le_refl _), va_up_self]
def lgV (a b : Int32) : Int64 := (a.toInt64 <<< ((32 : Int32).toInt64 &&& 63)) ||| (b.toInt64 &&& 4294967295)
