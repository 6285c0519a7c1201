/-! THE CLAIM OUT OF ONE WALK OF THE LAW'S BODY. Your part is whole_start (and what it stands on); all else here is the same for every law, but numbers. -/
def R_law : String := "GoldHeapsLaw"
def lw_P (b : Addr) (xs : List Int32) (args : Array Value) (s : State) : Prop := args = #[.ref b] ∧ s.IntsAt b xs ∧ xs.length ≤ 4608 ∧ (Jvm.Cond.and given_1 narrow_1).before args s = true
def lw_Q (_ : Array Value) (s : State) (o : Outcome) (t : State) : Prop := o = .returned (some (.int 1)) ∧ Framed s o t [] 600000 7302250
def lw_Z (below : List Frame) (a : Array Value) (s : State) : State → Prop := fun t => ∃ o, t.status = .running ∧ Ended t below o ∧ lw_Q a s o t
/-- the law's own end, with 1 on the stack, nothing written that was there before, its room as the claim has it -/
theorem lw_ret {p : Program} {l : Launch} {e : Env} {s : State} {m : MethodId} {below : List Frame} {meth : Method} {c : Code} {b : Nat} (hx : p.tables.exec = Jvm.exec) (hb : c.code = code) (hr : meth.sig.returnType = ret) (hlocks : meth.locks = false) {pc : Nat} {H : Heap} {ls : Array Slot} (hdg : decode code pc = .ok (.ireturn, 1)) : W p l e room_1 s m #[Value.ref b] below meth c H [] 600000 7302250 (lw_Z below #[Value.ref b] s) (F0 m pc ls [.int 1]) := by
  intro T hT X
  obtain ⟨fs, hret, hrun, hended, hW, hframe⟩ := X.leave (v := some (.int 1)) (hlocks := hlocks) (fun h => by rw [hr] at h; cases h)
  have hmeth' : T.vm.method? m = some meth := X.method'
  refine ⟨T.setFrames fs, ?_, .returned (some (.int 1)), hrun, hended, rfl, ⟨_, rfl⟩, hW, hframe⟩
  jvm_step X.here [X.here.top, hx, hb, hdg, hmeth', hr, ret, narrow_b1]
  (try refine ⟨rfl, ?_⟩); (try refine ⟨rfl, ?_⟩)
  first | (intro acts; rw [hret _ acts rfl rfl rfl]) | rw [hret _ _ rfl rfl rfl]
  exact Steps.refl _
/-- what holds at the law's entry: the machine, the code, the tables' words (any of lw_tbl by 'hts w (by decide +kernel)'), the script of L ints xs at the cell b, what the Statement gives of the start (any of its parts by flat_of_before) -/
def lw_At (p : Program) (s : State) (m : MethodId) (meth : Method) (c : Code) (b L : Nat) (xs : Nat → Int32) : Prop :=
  p.tables.exec = Jvm.exec ∧ c.code = code ∧ meth.sig.returnType = ret ∧ c.maxLocals = 4 ∧ s.vm.findClass R_law = some m.cls ∧ (∀ w ∈ lw_tbl, w.before #[Value.ref b] s = true) ∧ va_X b L xs s s.heap ∧ b < s.heap.size ∧ meth.locks = false ∧ (Jvm.Cond.and given_1 narrow_1).before #[Value.ref b] s = true
/-- a load of the script -/
theorem m_sldN {p : Program} {l : Launch} {e : Env} {R : Room} {s : State} {m : MethodId} {args : Array Value} {below : List Frame} {meth : Method} {c : Code} {H : Heap} {locs : List Loc} {cells slots : Nat} {Q : State → Prop} {cc : ByteArray} {pc : Nat} {ls : Array Slot} {rest : List Value} {A : Nat → Prop} {H0 : Heap} (hx : p.tables.exec = Jvm.exec) (hb : c.code = cc) {b L : Nat} {xs : Nat → Int32} (hX : va_X b L xs s H0) (hbl : b < H0.size) (hbA : ¬ A b) (hS : va_S A H0 H locs) {k : Nat} {i : Int32} (hi : i = nI k) (hk : k < L) (hL : L < 2 ^ 31) (hdg : decode cc pc = .ok (.iaload, 1))
    (kk : W p l e R s m args below meth c H locs cells slots Q (F0 m (pc + 1) ls (.int (xs k) :: rest))) : W p l e R s m args below meth c H locs cells slots Q (F0 m pc ls (.int i :: .ref b :: rest)) := by
  subst hi
  refine va_sld hx hb hX hbl hbA hS (vp_in_nI hk hL) hdg ?_
  rw [nI_clamp (by omega)]
  exact kk
theorem wl_cst : Cond.constantLong RL 13 (4294967295) ∈ wsL_law := List.mem_of_getElem? (i := 6) rfl
def okM (g mv : Nat) (hv : Nat → Nat) (bd : Nat) (w : Int32) (y : Int64) : Bool := inW w.toInt64 0 (lN (wyF g - 1)) && mtF g mv hv bd (nB w) y
def mvR (g t mv : Nat) (hv : Nat → Nat) (bd : Nat) (w : Int32) (y : Int64) : Int32 := if inW w.toInt64 0 (lN (wyF g - 1)) = false then -2 else if mtF g mv hv bd (nB w) y = false then -3 else (if ovF g (hvT g (nB w) (nL y) hv) (bdV g t (mv + 1) ((hvT g (nB w) (nL y) hv) 0) (nL y)) then 2 else 1)
theorem mvA {cA : Nat → ClassId} {M M' : mp} {r : Option Value} {x J P TG GO SG BG TM SM PH WM MT WF g t mv : Nat} {mi : Bool} {hv wh ma : Nat → Nat} {fa : Nat → Bool} {w : Int32} {y : Int64} (hx0 : M x = some (.inr (8, [.ref J, .ref P]))) (hJD : jdW cA M J TG GO SG BG TM SM) (hpw : pw cA M P J PH WM MT WF g t mv mi hv wh ma fa) (h : (inW w.toInt64 0 (lN (wyF g - 1)) = false ∧ r = some (.int (-2)) ∧ M' = M) ∨ (inW w.toInt64 0 (lN (wyF g - 1)) = true ∧ mtF g mv hv (bdV g t mv (hv 0) (ma (mv - 1))) (nB w) y = false ∧ r = some (.int (-3)) ∧ M' = M) ∨ (inW w.toInt64 0 (lN (wyF g - 1)) = true ∧ mtF g mv hv (bdV g t mv (hv 0) (ma (mv - 1))) (nB w) y = true ∧ r = some (.int (if ovF g (hvT g (nB w) (nL y) hv) (bdV g t (mv + 1) ((hvT g (nB w) (nL y) hv) 0) (nL y)) then 2 else 1)) ∧ pw cA M' P J PH WM MT WF g t (mv + 1) mi (hvT g (nB w) (nL y) hv) (va_up wh mv (nB w)) (va_up ma mv (nL y)) (va_up fa mv (wnF g mi t hv (bdV g t mv (hv 0) (ma (mv - 1))) && wnF g mi t (hvT g (nB w) (nL y) hv) (bdV g t (mv + 1) ((hvT g (nB w) (nL y) hv) 0) (nL y)))) ∧ jdW cA M' J TG GO SG BG TM SM ∧ kpL M M' [P, PH, WM, MT, WF, SM, TM])) : r = some (.int (mvR g t mv hv (bdV g t mv (hv 0) (ma (mv - 1))) w y)) ∧ (okM g mv hv (bdV g t mv (hv 0) (ma (mv - 1))) w y = false → clW cA M' x g t mv mi hv wh ma fa) ∧ (okM g mv hv (bdV g t mv (hv 0) (ma (mv - 1))) w y = true → clW cA M' x g t (mv + 1) mi (hvT g (nB w) (nL y) hv) (va_up wh mv (nB w)) (va_up ma mv (nL y)) (va_up fa mv (wnF g mi t hv (bdV g t mv (hv 0) (ma (mv - 1))) && wnF g mi t (hvT g (nB w) (nL y) hv) (bdV g t (mv + 1) ((hvT g (nB w) (nL y) hv) 0) (nL y))))) := by
  unfold okM mvR
  rcases h with ⟨h1, h2, h3⟩ | ⟨h1, h2, h3, h4⟩ | ⟨h1, h2, h3, h4, h5, h6⟩
  · rw [h1]; exact ⟨h2, fun _ => by rw [h3]; exact ⟨J, P, TG, GO, SG, BG, TM, SM, PH, WM, MT, WF, hx0, hJD, hpw⟩, fun z => by simp at z⟩
  · rw [h1, h2]; exact ⟨h3, fun _ => by rw [h4]; exact ⟨J, P, TG, GO, SG, BG, TM, SM, PH, WM, MT, WF, hx0, hJD, hpw⟩, fun z => by simp at z⟩
  · rw [h1, h2]
    refine ⟨h3, fun z => by simp at z, fun _ => ⟨J, P, TG, GO, SG, BG, TM, SM, PH, WM, MT, WF, h6 _ _ hx0 ?_, h5, h4⟩⟩
    obtain ⟨fs, hSM, -⟩ := id hJD.2.2.1
    obtain ⟨ft, hTM, -⟩ := id hJD.2.2.2
    obtain ⟨fh, fw, fm, fz, g1, g2, g3, g4, g5, -⟩ := id hpw
    simp only [List.mem_cons, List.not_mem_nil, or_false, not_or]
    exact ⟨mp_ne hx0 g1 (by simp), mp_ne hx0 g2 (by simp), mp_ne hx0 g3 (by simp), mp_ne hx0 g4 (by simp), mp_ne hx0 g5 (by simp), mp_ne hx0 hSM (by simp), mp_ne hx0 hTM (by simp)⟩
theorem mvB {cA : Nat → ClassId} {M M' : mp} {r : Option Value} {m0 fb ra wn ov th it td hp bd fl g t mv : Nat} {mi : Bool} {v : Nat → Value} {fh fb2 : Nat → Int64} {ff : Nat → Int32} {hs : Nat → Nat → Nat} {ma : Nat → Nat} {fa : Nat → Bool} {w : Int32} {y : Int64} (hA : rfA cA M m0 fb ra wn ov th it td hp bd fl v fh fb2 ff) (hv8 : v 8 = .int (nI g)) (hv9 : v 9 = .int (bI mi)) (hv10 : v 10 = .int (nI t)) (hv11 : v 11 = .int (nI mv)) (hfh : ∀ j, j ≤ mv → ∀ k, k < 3 → fh (3 * j + k) = lN (hs j k)) (hfb : ∀ j, j ≤ mv → fb2 j = lN (bsF g t hs ma j)) (hff : ∀ j, j ≤ mv → ff j = nI (fcF fa j)) (h : (inW w.toInt64 0 (lN (wyF g - 1)) = false ∧ r = some (.int (-2)) ∧ M' = M) ∨ (inW w.toInt64 0 (lN (wyF g - 1)) = true ∧ mtF g mv (hs mv) (bdV g t mv (hs mv 0) (ma (mv - 1))) (nB w) y = false ∧ r = some (.int (-3)) ∧ M' = M) ∨ (inW w.toInt64 0 (lN (wyF g - 1)) = true ∧ mtF g mv (hs mv) (bdV g t mv (hs mv 0) (ma (mv - 1))) (nB w) y = true ∧ r = some (.int (if ovF g (hvT g (nB w) (nL y) (hs mv)) (bdV g t (mv + 1) ((hvT g (nB w) (nL y) (hs mv)) 0) (nL y)) then 2 else 1)) ∧ (∃ v' fh' fb' ff', rfA cA M' m0 fb ra wn ov th it td hp bd fl v' fh' fb' ff' ∧ v' 8 = .int (nI g) ∧ v' 9 = .int (bI mi) ∧ v' 10 = .int (nI t) ∧ v' 11 = .int (nI (mv + 1)) ∧ (∀ j, j < 3 * mv + 3 → fh' j = fh j) ∧ (∀ k, k < 3 → fh' (3 * (mv + 1) + k) = lN ((hvT g (nB w) (nL y) (hs mv)) k)) ∧ (∀ j, j ≤ mv → fb' j = fb2 j) ∧ fb' (mv + 1) = lN (bdV g t (mv + 1) ((hvT g (nB w) (nL y) (hs mv)) 0) (nL y)) ∧ (∀ j, j ≤ mv → ff' j = ff j) ∧ ff' (mv + 1) = nI ((fcF fa mv) + bN (wnF g mi t (hs mv) (bdV g t mv (hs mv 0) (ma (mv - 1))) && wnF g mi t (hvT g (nB w) (nL y) (hs mv)) (bdV g t (mv + 1) ((hvT g (nB w) (nL y) (hs mv)) 0) (nL y))))) ∧ kpL M M' [m0, ra, wn, ov, th, it, hp, bd, fl])) : r = some (.int (mvR g t mv (hs mv) (bdV g t mv (hs mv 0) (ma (mv - 1))) w y)) ∧ (okM g mv (hs mv) (bdV g t mv (hs mv 0) (ma (mv - 1))) w y = false → rfW cA M' m0 g t mv mi hs (bsF g t hs ma) (fcF fa)) ∧ (okM g mv (hs mv) (bdV g t mv (hs mv 0) (ma (mv - 1))) w y = true → rfW cA M' m0 g t (mv + 1) mi (va_up hs (mv + 1) (hvT g (nB w) (nL y) (hs mv))) (bsF g t (va_up hs (mv + 1) (hvT g (nB w) (nL y) (hs mv))) (va_up ma mv (nL y))) (fcF (va_up fa mv (wnF g mi t (hs mv) (bdV g t mv (hs mv 0) (ma (mv - 1))) && wnF g mi t (hvT g (nB w) (nL y) (hs mv)) (bdV g t (mv + 1) ((hvT g (nB w) (nL y) (hs mv)) 0) (nL y)))))) := by
  unfold okM mvR
  rcases h with ⟨h1, h2, h3⟩ | ⟨h1, h2, h3, h4⟩ | ⟨h1, h2, h3, ⟨v', fh', fb', ff', g1, g2, g3, g4, g5, g6, g7, g8, g9, g10, g11⟩, h5⟩
  · rw [h1]; exact ⟨h2, fun _ => by rw [h3]; exact rf_ag hA (agS.rf v) hv8 hv9 hv10 hv11 hfh hfb hff, fun z => by simp at z⟩
  · rw [h1, h2]; exact ⟨h3, fun _ => by rw [h4]; exact rf_ag hA (agS.rf v) hv8 hv9 hv10 hv11 hfh hfb hff, fun z => by simp at z⟩
  · rw [h1, h2]
    refine ⟨h3, fun z => by simp at z, fun _ => ⟨fb, ra, wn, ov, th, it, td, hp, bd, fl, v', fh', fb', ff', g1, g2, g3, g4, g5, fun j hj k hk => ?_, fun j hj => ?_, fun j hj => ?_⟩⟩
    · by_cases e : j = mv + 1
      · rw [e, va_up_self]; exact g7 k hk
      · rw [va_up_ne _ _ e, g6 _ (by omega)]; exact hfh j (by omega) k hk
    · by_cases e : j = mv + 1
      · rw [e, bsF_at]; exact g9
      · rw [bsF_up (by omega), g8 j (by omega)]; exact hfb j (by omega)
    · by_cases e : j = mv + 1
      · rw [e, fcF_at]; exact g11
      · rw [fcF_up (by omega), g10 j (by omega)]; exact hff j (by omega)
theorem bdA {cA : Nat → ClassId} {M M' : mp} {r : Option Value} {x J P TG GO SG BG TM SM PH WM MT WF g t mv : Nat} {mi : Bool} {hv wh ma : Nat → Nat} {fa : Nat → Bool} {g0 : Int32} {m2 : Bool} {a b c0 : Int64} (hx0 : M x = some (.inr (8, [.ref J, .ref P]))) (hJD : jdW cA M J TG GO SG BG TM SM) (hpw : pw cA M P J PH WM MT WF g t mv mi hv wh ma fa) (h : (ahF g0 m2 a b c0 = true ∧ r = some (.int 1) ∧ pw cA M' P J PH WM MT WF (nB g0) (if nB g0 = 2 then nL b else 0) 0 m2 (hv0 (nB g0) (nL a) (nL b) (nL c0)) wh ma fa ∧ jdW cA M' J TG GO SG BG TM SM ∧ kpL M M' [P, PH]) ∨ (ahF g0 m2 a b c0 = false ∧ r = some (.int (-2)) ∧ M' = M)) : r = some (.int (if ahF g0 m2 a b c0 = true then 1 else -2)) ∧ (ahF g0 m2 a b c0 = false → clW cA M' x g t mv mi hv wh ma fa) ∧ (ahF g0 m2 a b c0 = true → clW cA M' x (nB g0) (if nB g0 = 2 then nL b else 0) 0 m2 (hv0 (nB g0) (nL a) (nL b) (nL c0)) wh ma fa) := by
  rcases h with ⟨h1, h2, h3, h4, h5⟩ | ⟨h1, h2, h3⟩
  · rw [h1]
    obtain ⟨fh, fw, fm, fz, g1, g2, -⟩ := id hpw
    exact ⟨h2, fun z => by simp at z, fun _ => ⟨J, P, TG, GO, SG, BG, TM, SM, PH, WM, MT, WF, h5 _ _ hx0 (ni2 (mp_ne hx0 g1 (by simp)) (mp_ne hx0 g2 (by simp))), h4, h3⟩⟩
  · rw [h1]
    exact ⟨h2, fun _ => by rw [h3]; exact ⟨J, P, TG, GO, SG, BG, TM, SM, PH, WM, MT, WF, hx0, hJD, hpw⟩, fun z => by simp at z⟩
theorem bdB {cA : Nat → ClassId} {M M' : mp} {r : Option Value} {m0 fb ra wn ov th it td hp bd fl g t mv : Nat} {mi : Bool} {v : Nat → Value} {fh fb2 : Nat → Int64} {ff : Nat → Int32} {hs : Nat → Nat → Nat} {ma : Nat → Nat} {fa : Nat → Bool} {g0 : Int32} {m2 : Bool} {a b c0 : Int64} (hA : rfA cA M m0 fb ra wn ov th it td hp bd fl v fh fb2 ff) (hv8 : v 8 = .int (nI g)) (hv9 : v 9 = .int (bI mi)) (hv10 : v 10 = .int (nI t)) (hv11 : v 11 = .int (nI mv)) (hfh : ∀ j, j ≤ mv → ∀ k, k < 3 → fh (3 * j + k) = lN (hs j k)) (hfb : ∀ j, j ≤ mv → fb2 j = lN (bsF g t hs ma j)) (hff : ∀ j, j ≤ mv → ff j = nI (fcF fa j)) (h : (ahF g0 m2 a b c0 = true ∧ r = some (.int 1) ∧ (∃ v' fh' fb' ff', rfA cA M' m0 fb ra wn ov th it td hp bd fl v' fh' fb' ff' ∧ v' 8 = .int (nI (nB g0)) ∧ v' 9 = .int (bI m2) ∧ v' 10 = .int (nI (if nB g0 = 2 then nL b else 0)) ∧ v' 11 = .int (nI 0) ∧ (∀ k, k < 3 → fh' k = lN (hv0 (nB g0) (nL a) (nL b) (nL c0) k)) ∧ (∀ t1 lm, fb' 0 = lN (bdV (nB g0) t1 0 (nL a) lm)) ∧ ff' 0 = nI 0) ∧ kpL M M' [m0, hp, bd, fl]) ∨ (ahF g0 m2 a b c0 = false ∧ r = some (.int (-2)) ∧ M' = M)) : r = some (.int (if ahF g0 m2 a b c0 = true then 1 else -2)) ∧ (ahF g0 m2 a b c0 = false → rfW cA M' m0 g t mv mi hs (bsF g t hs ma) (fcF fa)) ∧ (ahF g0 m2 a b c0 = true → rfW cA M' m0 (nB g0) (if nB g0 = 2 then nL b else 0) 0 m2 (fun _ => (hv0 (nB g0) (nL a) (nL b) (nL c0))) (bsF (nB g0) (if nB g0 = 2 then nL b else 0) (fun _ => (hv0 (nB g0) (nL a) (nL b) (nL c0))) ma) (fcF fa)) := by
  rcases h with ⟨h1, h2, ⟨v', fh', fb', ff', g1, g2, g3, g4, g5, g6, g7, g8⟩, h5⟩ | ⟨h1, h2, h3⟩
  · rw [h1]
    refine ⟨h2, fun z => by simp at z, fun _ => ⟨fb, ra, wn, ov, th, it, td, hp, bd, fl, v', fh', fb', ff', g1, g2, g3, g4, g5, fun j hj k hk => ?_, fun j hj => ?_, fun j hj => ?_⟩⟩
    · rw [show j = 0 by omega, Nat.mul_zero, Nat.zero_add]; exact g6 k hk
    · rw [show j = 0 by omega]; exact g7 _ _
    · rw [show j = 0 by omega]; exact g8
  · rw [h1]
    exact ⟨h2, fun _ => by rw [h3]; exact rf_ag hA (agS.rf v) hv8 hv9 hv10 hv11 hfh hfb hff, fun z => by simp at z⟩
theorem BI.dn {g t mv : Nat} {mi : Bool} {hs : Nat → Nat → Nat} {wh ma : Nat → Nat} (h : BI g t (mv + 1) mi hs wh ma) : BI g t mv mi hs wh ma := ⟨by have := h.1; omega, fun j hj => h.2.1 j (by omega), h.2.2.1, fun j hj => h.2.2.2 j (by omega)⟩
theorem BI.nw {g t mv g2 t2 : Nat} {mi m2 : Bool} {hs : Nat → Nat → Nat} {hv wh ma : Nat → Nat} (h : BI g t mv mi hs wh ma) (hok : okB g2 t2 m2 hv) : BI g2 t2 0 m2 (fun _ => hv) wh ma := ⟨by omega, fun _ _ => hok, h.2.2.1, fun j hj => absurd hj (Nat.not_lt_zero _)⟩
theorem okM_t {g mv : Nat} {hv : Nat → Nat} {bd : Nat} {w : Int32} {y : Int64} (h : okM g mv hv bd w y = true) (hg : g ≤ 3) : nB w < wyF g ∧ mtP g mv hv bd (nB w) (nL y) := by
  unfold okM mtF at h
  rw [Bool.and_eq_true, Bool.and_eq_true] at h
  have hw1 : 1 ≤ wyF g ∧ wyF g ≤ 4 := by unfold wyF; split <;> (try split) <;> (try split) <;> omega
  obtain ⟨-, -, h3⟩ := in_i32 (a := 0) (b := wyF g - 1) (by omega) h.1 (by omega)
  exact ⟨by omega, of_decide_eq_true h.2.2⟩
