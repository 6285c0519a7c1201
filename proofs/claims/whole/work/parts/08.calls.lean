section MapRows2
variable {p : Program} {l : Launch} {e : Env} {R : Room} {s : State} {m : MethodId} {args : Array Value} {below : List Frame} {meth : Method} {c : Code} {H : Heap} {locs : List Loc} {cells slots : Nat} {Q : State → Prop}
variable {cc : ByteArray} {pc : Nat} {ls : Array Slot} {rest : List Value} {D : va_G} {a : Nat} {H0 : Heap} {M M0 : mp} {cA : Nat → ClassId}
theorem m_astq (t0 : Nat) {r : vw_C} {ci : Nat} (ht : (tysA cA)[t0]? = some (cA t0, .object r.1)) (hexec : p.tables.exec = Jvm.exec) (hb : c.code = cc) (hK : kk D cA s) (hh : hw D M0 H0 M H locs) {n v : Nat} {vs : List Value} {f : Nat → Option Nat} (ha : M a = some (.inl (cA t0, n, .inr (.inr (.inr (.inr f)))))) (hv : M v = some (.inr (ci, vs))) (hc : vwCl[ci]? = some r) {i : Int32} (hin : vp_in i n) (hdg : decode cc pc = .ok (.aastore, 1))
    (kk : ∀ (M1 : mp) (H1 : Heap) (locs1 : List Loc), M1 = mu M a (.inl (cA t0, n, .inr (.inr (.inr (.inr (va_up f i.toNatClampNeg (some v))))))) → hw D M0 H0 M1 H1 locs1 → W p l e R s m args below meth c H1 locs1 cells slots Q (F0 m (pc + 1) ls rest)) : W p l e R s m args below meth c H locs cells slots Q (F0 m pc ls (.ref v :: .int i :: .ref a :: rest)) := by
  have hlt : i.toNatClampNeg < n := Nat.not_le.mp fun q => hin (Or.inr q)
  have h0 : ¬ i < 0 := fun q => hin (Or.inl q)
  obtain ⟨r', hr', cellV, g1, g2, g3, -⟩ := hh.1 v _ hv
  have hcls := (hK.1.1 ci r hc).2
  obtain ⟨kA, comp, k1, k2, k3, -⟩ := (hK.1.2 t0 _ ht).2
  have hcomp : comp = D.1 ci := Option.some.inj (k3.symm.trans hcls.1)
  subst hcomp
  obtain ⟨kC, hkC, -⟩ := hcls.2
  refine W.aast hexec hb (hh.1 a _ ha) (fun q h => by cases h) (fun h => by cases h) k1 k2 rfl hkC ⟨h0, by show _ < (arrV _ _ _).slots.size; rw [arrV_size]; exact hlt⟩ g1 (fun q h => by rw [g3] at h; cases h) (by rw [g2]; exact hkC) (by rw [g2]; exact va_assign hcls) rfl rfl hdg fun H1 e z oq => ?_
  refine kk _ H1 _ rfl (hh.put ha z oq ?_)
  show H1[a]? = some (vp_cell _ _)
  rw [e, vp_cell_q, vp_cell_q, arrV_store]
  congr 2
  funext q
  by_cases hq : q = i.toNatClampNeg
  · subst hq; simp [updV, va_up, va_rf]
  · simp [updV, va_up, hq]
theorem m_new (hexec : p.tables.exec = Jvm.exec) (hb : c.code = cc) {own C : String} {T : u_T} {N ci index : Nat} {Ts : List Cond} (hts : ∀ w ∈ Ts, w.before args s = true) (hin : ∀ w ∈ u_ws C T N, w ∈ Ts) (ty : Nat → FieldType) (hty : ∀ k, k < N → parseFieldDescriptor (T k).2.2.1 = some (ty k)) (hown : s.vm.findClass own = some m.cls) (hcl : (Cond.classLink own index C).before args s = true) (hinst : (Cond.instantiable C N).before args s = true) (hini : (Cond.initialized C).before args s = true)
    (hK : kk D cA s) (hh : hw D M0 H0 M H locs) (hc : vwCl[ci]? = some (C, T, N)) {fs : List Value} (hfs : ∀ j, j < N → defaultValue (ty j) = vp_V fs j) (hcells : cells + 1 ≤ R.cells) (hslots : slots + N ≤ R.slots) (hdg : decode cc pc = .ok (.new index, 3))
    (kk : ∀ (q : Nat) (M1 : mp) (H1 : Heap), q = H.size → M1 = mu M q (.inr (ci, fs)) → hw D M0 H0 M1 H1 locs → W p l e R s m args below meth c H1 locs (cells + 1) (slots + N) Q (F0 m (pc + 3) ls (.ref q :: rest))) : W p l e R s m args below meth c H locs cells slots Q (F0 m pc ls rest) := by
  have hKn := hK.1.1 ci _ hc
  refine W.newcK hexec hb hown hcl hinst hini rfl hdg hcells hslots hKn.2.1 rfl fun H1 kC hkC e1 z1 o1 => ?_
  exact kk H.size _ H1 rfl rfl (hh.push z1 o1 ⟨_, hc, (u_born ty hts hin hKn hkC e1 hty).to hfs⟩)
theorem m_newa (t0 : Nat) {ty : FieldType} (ht : (tysA cA)[t0]? = some (cA t0, ty)) (hexec : p.tables.exec = Jvm.exec) (hb : c.code = cc) {atype : ArrayType} (harr : (Cond.arrayClass (newarray.typeOf atype)).before args s = true) (hty : newarray.typeOf atype = ty) (hK : kk D cA s) (hh : hw D M0 H0 M H locs)
    {n : Int32} {N' : Nat} {a0 : vp_A} (ha : ∀ cA : ClassId, vp_cell cA a0 = arrV cA N' (fun _ => defaultValue ty)) (hn : ¬ n < 0) (hN : n.toNatClampNeg = N') (hbytes : N' * componentBytes ty ≤ 536870912) (hcells : cells + 1 ≤ R.cells) (hslots : slots + N' ≤ R.slots) (hdg : decode cc pc = .ok (.newarray atype, 2))
    (kk : ∀ (q : Nat) (M1 : mp) (H1 : Heap), q = H.size → M1 = mu M q (.inl (cA t0, a0)) → hw D M0 H0 M1 H1 locs → W p l e R s m args below meth c H1 locs (cells + 1) (slots + N') Q (F0 m (pc + 2) ls (.ref q :: rest))) : W p l e R s m args below meth c H locs cells slots Q (F0 m pc ls (.int n :: rest)) := by
  subst hty
  refine va_newaK hexec hb harr rfl hdg rfl hn hN hbytes hcells hslots rfl fun H1 cB e1 z1 o1 hAr hNm => ?_
  have hcB : cB = cA t0 := by
    have h1 := (hK.1.2 t0 _ ht).2
    have h2 : s.vm.findClass ("[" ++ (newarray.typeOf atype).toString) = some (cA t0) := by
      cases atype <;> exact h1
    exact Option.some.inj (hNm.symm.trans h2)
  subst hcB
  refine kk H.size _ H1 rfl rfl (hh.push z1 o1 ?_)
  show H1[H.size]? = some (vp_cell _ _)
  rw [ha]
  exact e1
theorem m_newq (t0 : Nat) {C : String} (ht : (tysA cA)[t0]? = some (cA t0, .object C)) (hexec : p.tables.exec = Jvm.exec) (hb : c.code = cc) {own : String} {index : Nat} (hown : s.vm.findClass own = some m.cls) (hclink : (Cond.classLink own index C).before args s = true) (hover : va_AO C s) (hK : kk D cA s) (hh : hw D M0 H0 M H locs)
    {n : Int32} {N' : Nat} (hn : ¬ n < 0) (hN : n.toNatClampNeg = N') (hbytes : N' * 4 ≤ 536870912) (hcells : cells + 1 ≤ R.cells) (hslots : slots + N' ≤ R.slots) (hdg : decode cc pc = .ok (.anewarray index, 3))
    (kk : ∀ (q : Nat) (M1 : mp) (H1 : Heap), q = H.size → M1 = mu M q (.inl (cA t0, N', .inr (.inr (.inr (.inr (fun _ => none)))))) → hw D M0 H0 M1 H1 locs → W p l e R s m args below meth c H1 locs (cells + 1) (slots + N') Q (F0 m (pc + 3) ls (.ref q :: rest))) : W p l e R s m args below meth c H locs cells slots Q (F0 m pc ls (.int n :: rest)) := by
  subst hN
  refine W.anew hexec hb hown hclink (va_AO.use hover) rfl hdg rfl hn hbytes hcells hslots fun cB kA comp f1 f2 f3 f4 => ?_
  have hcB : cB = cA t0 := by
    obtain ⟨_, _, _, _, _, h4⟩ := (hK.1.2 t0 _ ht).2
    exact Option.some.inj (f1.symm.trans h4)
  subst hcB
  generalize hH1 : H.push ({ cls := cA t0, slots := Array.replicate n.toNatClampNeg .null, vm := .none } : Cell) = H1
  have z1 : H1.size = H.size + 1 := by rw [← hH1, Array.size_push]
  have e1 : H1[H.size]? = some (arrV (cA t0) n.toNatClampNeg (fun _ => .null)) := by rw [← hH1, Array.getElem?_push_size, ← arrV_new]
  have o1 : ∀ q : Nat, q < H.size → H1[q]? = H[q]? := fun q hq => by rw [← hH1, Array.getElem?_push, if_neg (Nat.ne_of_lt hq)]
  refine kk H.size _ H1 rfl rfl (hh.push z1 o1 ?_)
  show H1[H.size]? = some (vp_cell _ _)
  rw [vp_cell_q]
  exact e1
/-! longs compared, then a branch -/
theorem lc_lt (hx : p.tables.exec = Jvm.exec) (hb : c.code = cc) {x y : Int64} {off : Int} {tgt : Nat} (d1 : decode cc pc = .ok (.lcmp, 1)) (d2 : decode cc (pc + 1) = .ok (.ifCond .lt off, 3)) (ht : ((pc + 1 : Nat) : Int) + off = (tgt : Int))
    (kt : x < y → W p l e R s m args below meth c H locs cells slots Q (F0 m tgt ls rest)) (kf : ¬ x < y → W p l e R s m args below meth c H locs cells slots Q (F0 m (pc + 4) ls rest)) : W p l e R s m args below meth c H locs cells slots Q (F0 m pc ls (.long y :: .long x :: rest)) :=
  W.lcmp hx hb d1 (lv_if_lt hx hb d2 ht (fun h => kt ((lg_cmp_lt x y).mp h)) (fun h => kf (fun g => h ((lg_cmp_lt x y).mpr g))))
theorem lc_ge (hx : p.tables.exec = Jvm.exec) (hb : c.code = cc) {x y : Int64} {off : Int} {tgt : Nat} (d1 : decode cc pc = .ok (.lcmp, 1)) (d2 : decode cc (pc + 1) = .ok (.ifCond .ge off, 3)) (ht : ((pc + 1 : Nat) : Int) + off = (tgt : Int))
    (kt : y ≤ x → W p l e R s m args below meth c H locs cells slots Q (F0 m tgt ls rest)) (kf : ¬ y ≤ x → W p l e R s m args below meth c H locs cells slots Q (F0 m (pc + 4) ls rest)) : W p l e R s m args below meth c H locs cells slots Q (F0 m pc ls (.long y :: .long x :: rest)) :=
  W.lcmp hx hb d1 (lv_if_ge hx hb d2 ht (fun h => kt ((lg_cmp_ge x y).mp h)) (fun h => kf (fun g => h ((lg_cmp_ge x y).mpr g))))
theorem lc_gt (hx : p.tables.exec = Jvm.exec) (hb : c.code = cc) {x y : Int64} {off : Int} {tgt : Nat} (d1 : decode cc pc = .ok (.lcmp, 1)) (d2 : decode cc (pc + 1) = .ok (.ifCond .gt off, 3)) (ht : ((pc + 1 : Nat) : Int) + off = (tgt : Int))
    (kt : y < x → W p l e R s m args below meth c H locs cells slots Q (F0 m tgt ls rest)) (kf : ¬ y < x → W p l e R s m args below meth c H locs cells slots Q (F0 m (pc + 4) ls rest)) : W p l e R s m args below meth c H locs cells slots Q (F0 m pc ls (.long y :: .long x :: rest)) :=
  W.lcmp hx hb d1 (lv_if_gt hx hb d2 ht (fun h => kt ((lg_cmp_gt x y).mp h)) (fun h => kf (fun g => h ((lg_cmp_gt x y).mpr g))))
theorem lc_le (hx : p.tables.exec = Jvm.exec) (hb : c.code = cc) {x y : Int64} {off : Int} {tgt : Nat} (d1 : decode cc pc = .ok (.lcmp, 1)) (d2 : decode cc (pc + 1) = .ok (.ifCond .le off, 3)) (ht : ((pc + 1 : Nat) : Int) + off = (tgt : Int))
    (kt : x ≤ y → W p l e R s m args below meth c H locs cells slots Q (F0 m tgt ls rest)) (kf : ¬ x ≤ y → W p l e R s m args below meth c H locs cells slots Q (F0 m (pc + 4) ls rest)) : W p l e R s m args below meth c H locs cells slots Q (F0 m pc ls (.long y :: .long x :: rest)) :=
  W.lcmp hx hb d1 (lv_if_le hx hb d2 ht (fun h => kt ((lg_cmp_le x y).mp h)) (fun h => kf (fun g => h ((lg_cmp_le x y).mpr g))))
theorem lc_eq (hx : p.tables.exec = Jvm.exec) (hb : c.code = cc) {x y : Int64} {off : Int} {tgt : Nat} (d1 : decode cc pc = .ok (.lcmp, 1)) (d2 : decode cc (pc + 1) = .ok (.ifCond .eq off, 3)) (ht : ((pc + 1 : Nat) : Int) + off = (tgt : Int))
    (kt : x = y → W p l e R s m args below meth c H locs cells slots Q (F0 m tgt ls rest)) (kf : ¬ x = y → W p l e R s m args below meth c H locs cells slots Q (F0 m (pc + 4) ls rest)) : W p l e R s m args below meth c H locs cells slots Q (F0 m pc ls (.long y :: .long x :: rest)) :=
  W.lcmp hx hb d1 (lv_if_eq hx hb d2 ht (fun h => kt ((lg_cmp_eq x y).mp h)) (fun h => kf (fun g => h ((lg_cmp_eq x y).mpr g))))
theorem lc_ne (hx : p.tables.exec = Jvm.exec) (hb : c.code = cc) {x y : Int64} {off : Int} {tgt : Nat} (d1 : decode cc pc = .ok (.lcmp, 1)) (d2 : decode cc (pc + 1) = .ok (.ifCond .ne off, 3)) (ht : ((pc + 1 : Nat) : Int) + off = (tgt : Int))
    (kt : ¬ x = y → W p l e R s m args below meth c H locs cells slots Q (F0 m tgt ls rest)) (kf : x = y → W p l e R s m args below meth c H locs cells slots Q (F0 m (pc + 4) ls rest)) : W p l e R s m args below meth c H locs cells slots Q (F0 m pc ls (.long y :: .long x :: rest)) :=
  W.lcmp hx hb d1 (lv_if_ne hx hb d2 ht (fun h => kt (fun g => h ((lg_cmp_eq x y).mpr g))) (fun h => kf ((lg_cmp_eq x y).mp h)))
/-! a value on top, under another name -/
theorem tpi {x x' : Int32} (h : x = x') (k : W p l e R s m args below meth c H locs cells slots Q (F0 m pc ls (.int x' :: rest))) : W p l e R s m args below meth c H locs cells slots Q (F0 m pc ls (.int x :: rest)) := by subst h; exact k
theorem tpl {x x' : Int64} (h : x = x') (k : W p l e R s m args below meth c H locs cells slots Q (F0 m pc ls (.long x' :: rest))) : W p l e R s m args below meth c H locs cells slots Q (F0 m pc ls (.long x :: rest)) := by subst h; exact k
theorem tpv {x x' : Value} (h : x = x') (k : W p l e R s m args below meth c H locs cells slots Q (F0 m pc ls (x' :: rest))) : W p l e R s m args below meth c H locs cells slots Q (F0 m pc ls (x :: rest)) := by subst h; exact k
/-! calls -/
variable {st0 : List Value} {mc ms : Nat} {y : MethodName} {bytes : ByteArray} {maxL nL n index fr lo : Nat} {ret : Option FieldType} {ws Ts : List Cond} {own C : String} {b : Addr} {As : List Value}
theorem run_pure {v : Option Value} (hr : va_Run p l e R s m args below meth c H locs cells slots 0 0 (F0 m pc ls st0) rest (fun st o t => o = .returned v ∧ t.heap = st.heap) (fun _ => False)) (k : W p l e R s m args below meth c H locs cells slots Q (F0 m (pc + 3) ls (v.toList ++ rest))) : W p l e R s m args below meth c H locs cells slots Q (F0 m pc ls st0) := by
  intro T hT X
  obtain ⟨v', st₀, t, T', L, h0, X', hL, e1, e2, ⟨hv, ht⟩, st⟩ := hr T hT X
  cases hv
  have hL0 : L = [] := by
    cases L with
    | nil => rfl
    | cons q _ => exact (hL q List.mem_cons_self).elim
  subst hL0
  rw [List.append_nil] at X'
  obtain ⟨t2, a1, b1⟩ := k T' (by rw [e1, ht, h0]) X'
  exact ⟨t2, st t2 a1, b1⟩
theorem run_mut {post : Option Value → mp → Prop} (hr : va_Run p l e R s m args below meth c H locs cells slots mc ms (F0 m pc ls st0) rest (MQc D M post) (fun q => M q ≠ none ∨ H.size ≤ q)) (hh : hw D M0 H0 M H locs)
    (k : ∀ (v : Option Value) (M1 : mp) (H1 : Heap) (locs1 : List Loc), post v M1 → hw D M0 H0 M1 H1 locs1 → H.size ≤ H1.size → (∀ q, q < H.size → M q = none → H1[q]? = H[q]?) → (∀ q, M1 q ≠ none → M q ≠ none ∨ H.size ≤ q) → W p l e R s m args below meth c H1 locs1 (cells + mc) (slots + ms) Q (F0 m (pc + 3) ls (v.toList ++ rest))) : W p l e R s m args below meth c H locs cells slots Q (F0 m pc ls st0) := by
  intro T hT X
  obtain ⟨v', st₀, t, T', L, h0, X', hL, e1, e2, ⟨v, M1, hv, hp, hm, hz, hk, hd⟩, st⟩ := hr T hT X
  cases hv
  rw [h0] at hz hk hd
  obtain ⟨h1, s1, s2, s3, s4⟩ := hh
  have hup : ∀ q, (M q ≠ none ∨ H.size ≤ q) → M0 q ≠ none ∨ H0.size ≤ q := fun q hq => by
    rcases hq with g | g
    · exact s3 q g
    · exact Or.inr (Nat.le_trans s1 g)
  obtain ⟨t2, a1, b1⟩ := k v' M1 T'.heap (locs ++ L) hp ⟨by rw [e1]; exact hm, by rw [e1]; exact Nat.le_trans s1 hz, fun q hq hn => by
      have hq' : q < H.size := Nat.lt_of_lt_of_le hq s1
      have hMq : M q = none := by
        cases hMq : M q with
        | none => rfl
        | some x => rcases s3 q (by rw [hMq]; exact fun z => by cases z) with g | g
                    · exact absurd hn g
                    · omega
      rw [e1, hk q hq' hMq]
      exact s2 q hq hn, fun q hq => hup q (hd q hq), fun x hx => by
      rcases List.mem_append.mp hx with g | g
      · exact s4 x g
      · exact hup _ (hL x g)⟩ (by rw [e1]; exact hz) (fun q h1 h2 => by rw [e1]; exact hk q h1 h2) hd T' rfl X'
  exact ⟨t2, st t2 a1, b1⟩
theorem blindP (M : mp) (As : List Value) : FrameBlind (va_Pc As (fun U => mh D M U.heap ∧ kk D cA U)) := fun a U g mk q => ⟨q.1, q.2.1, kk.same (u := U) (U := U.calling g mk a) rfl q.2.2⟩
theorem blindM (M : mp) (As : List Value) (sz : Nat) : FrameBlind (va_Pc As (fun U => U.heap.size = sz ∧ mh D M U.heap ∧ kk D cA U)) := fun a U g mk q => ⟨q.1, q.2.1, q.2.2.1, kk.same (u := U) (U := U.calling g mk a) rfl q.2.2.2⟩
theorem preP (hK : kk D cA s) (hM : mh D M H) (As : List Value) : PreS s H (va_Pc As (fun U => mh D M U.heap ∧ kk D cA U)) As := ⟨blindP M As, fun U hU hW => ⟨rfl, by rw [hU]; exact hM, hK.warm hW⟩⟩
theorem preM (hK : kk D cA s) (hM : mh D M H) (As : List Value) : PreS s H (va_Pc As (fun U => U.heap.size = H.size ∧ mh D M U.heap ∧ kk D cA U)) As := ⟨blindM M As H.size, fun U hU hW => ⟨rfl, by rw [hU], by rw [hU]; exact hM, hK.warm hW⟩⟩
theorem recvM (hK : kk D cA s) (hM : mh D M H) {ci : Nat} {fs : List Value} {q : vw_C} (hb : M b = some (.inr (ci, fs))) (hc : vwCl[ci]? = some q) : ∃ cellB : Cell, H[b]? = some cellB ∧ cellB.vm.isStatics = false ∧ s.vm.findClass q.1 = some cellB.cls := va_recv hK.1 (hM.P1 hb) hc (q0 := 0) rfl
/-- a pure call of a static method -/
theorem cpS {v : Value} (hP : PC l D cA y ws fr lo As M (some v)) (S : CallFix p m c cc nL s args Ts own) (cw : CallB R s args own index y bytes maxL ret ws ({ frames := fr, cells := 0, slots := 0, locals := lo }) 0 0 n ∧ (Cond.static y).before args s = true) (hK : kk D cA s) (hM : mh D M H) (hn : As.length = n) (hsize : ls.size = nL) (hst : st0 = As.reverse ++ rest) (hW : (rest.map fun v => v.category).sum ≤ 8) (hdg : decode cc pc = .ok (.invokestatic index, 3)) (hf : cells ≤ R.cells ∧ slots ≤ R.slots)
    (k : W p l e R s m args below meth c H locs cells slots Q (F0 m (pc + 3) ls (v :: rest))) : W p l e R s m args below meth c H locs cells slots Q (F0 m pc ls st0) :=
  run_pure (v := some v) (va_runS S hP cw (preP hK hM As) rfl hn hsize hst (lv_room (rest := st0) hW) hdg hf) k
theorem cpSN {v : Value} {host : String} (hP : PC l D cA y ws fr lo As M (some v)) (S : CallFix p m c cc nL s args Ts own) (cw : va_CN R s args own index y host bytes maxL ret ws ({ frames := fr, cells := 0, slots := 0, locals := lo }) 0 0 n ∧ (Cond.static y).before args s = true ∧ True) (hK : kk D cA s) (hM : mh D M H) (hn : As.length = n) (hsize : ls.size = nL) (hst : st0 = As.reverse ++ rest) (hW : (rest.map fun v => v.category).sum ≤ 8) (hdg : decode cc pc = .ok (.invokestatic index, 3)) (hf : cells ≤ R.cells ∧ slots ≤ R.slots)
    (k : W p l e R s m args below meth c H locs cells slots Q (F0 m (pc + 3) ls (v :: rest))) : W p l e R s m args below meth c H locs cells slots Q (F0 m pc ls st0) :=
  run_pure (v := some v) (va_runSN S hP cw (preP hK hM As) rfl hn hsize hst (lv_room (rest := st0) hW) hdg hf) k
theorem cpV {v : Value} {ci : Nat} {fs : List Value} {q : vw_C} (hP : PC l D cA y ws fr lo (.ref b :: As) M (some v)) (S : CallFix p m c cc nL s args Ts own) (cw : CallW R s args own q.1 index y bytes maxL ret ws ({ frames := fr, cells := 0, slots := 0, locals := lo }) 0 0 n) (hK : kk D cA s) (hM : mh D M H) (hb : M b = some (.inr (ci, fs))) (hc : vwCl[ci]? = some q) (hn : As.length = n) (hsize : ls.size = nL) (hst : st0 = As.reverse ++ .ref b :: rest) (hW : (rest.map fun v => v.category).sum ≤ 8) (hdg : decode cc pc = .ok (.invokevirtual index, 3)) (hf : cells ≤ R.cells ∧ slots ≤ R.slots)
    (k : W p l e R s m args below meth c H locs cells slots Q (F0 m (pc + 3) ls (v :: rest))) : W p l e R s m args below meth c H locs cells slots Q (F0 m pc ls st0) :=
  run_pure (v := some v) (va_runV S hP cw ⟨blindP M _, recvM hK hM hb hc, (preP hK hM _).2⟩ rfl hn hsize hst (lv_room (rest := st0) hW) hdg hf) k
/-- calls that write -/
theorem cmV {post : Option Value → mp → Prop} {ci : Nat} {fs : List Value} {q : vw_C} (hP : MC l D cA y ws fr lo mc ms (.ref b :: As) M post) (S : CallFix p m c cc nL s args Ts own) (cw : CallW R s args own q.1 index y bytes maxL ret ws ({ frames := fr, cells := mc, slots := ms, locals := lo }) mc ms n) (hK : kk D cA s) (hh : hw D M0 H0 M H locs) (hb : M b = some (.inr (ci, fs))) (hc : vwCl[ci]? = some q) (hn : As.length = n) (hsize : ls.size = nL) (hst : st0 = As.reverse ++ .ref b :: rest) (hW : (rest.map fun v => v.category).sum ≤ 8) (hdg : decode cc pc = .ok (.invokevirtual index, 3)) (hf : cells + mc ≤ R.cells ∧ slots + ms ≤ R.slots)
    (k : ∀ (v : Option Value) (M1 : mp) (H1 : Heap) (locs1 : List Loc), post v M1 → hw D M0 H0 M1 H1 locs1 → H.size ≤ H1.size → (∀ q, q < H.size → M q = none → H1[q]? = H[q]?) → (∀ q, M1 q ≠ none → M q ≠ none ∨ H.size ≤ q) → W p l e R s m args below meth c H1 locs1 (cells + mc) (slots + ms) Q (F0 m (pc + 3) ls (v.toList ++ rest))) : W p l e R s m args below meth c H locs cells slots Q (F0 m pc ls st0) :=
  run_mut (va_runV S (hP H.size) cw ⟨blindM M _ _, recvM hK hh.1 hb hc, (preM hK hh.1 _).2⟩ rfl hn hsize hst (lv_room (rest := st0) hW) hdg hf) hh k
theorem cmS {post : Option Value → mp → Prop} (hP : MC l D cA y ws fr lo mc ms As M post) (S : CallFix p m c cc nL s args Ts own) (cw : CallB R s args own index y bytes maxL ret ws ({ frames := fr, cells := mc, slots := ms, locals := lo }) mc ms n ∧ (Cond.static y).before args s = true) (hK : kk D cA s) (hh : hw D M0 H0 M H locs) (hn : As.length = n) (hsize : ls.size = nL) (hst : st0 = As.reverse ++ rest) (hW : (rest.map fun v => v.category).sum ≤ 8) (hdg : decode cc pc = .ok (.invokestatic index, 3)) (hf : cells + mc ≤ R.cells ∧ slots + ms ≤ R.slots)
    (k : ∀ (v : Option Value) (M1 : mp) (H1 : Heap) (locs1 : List Loc), post v M1 → hw D M0 H0 M1 H1 locs1 → H.size ≤ H1.size → (∀ q, q < H.size → M q = none → H1[q]? = H[q]?) → (∀ q, M1 q ≠ none → M q ≠ none ∨ H.size ≤ q) → W p l e R s m args below meth c H1 locs1 (cells + mc) (slots + ms) Q (F0 m (pc + 3) ls (v.toList ++ rest))) : W p l e R s m args below meth c H locs cells slots Q (F0 m pc ls st0) :=
  run_mut (va_runS S (hP H.size) cw (preM hK hh.1 As) rfl hn hsize hst (lv_room (rest := st0) hW) hdg hf) hh k
theorem cmI {post : Option Value → mp → Prop} (hP : MC l D cA y ws fr lo mc ms (.ref b :: As) M post) (S : CallFix p m c cc nL s args Ts own) (cw : CallB R s args own index y bytes maxL none ws ({ frames := fr, cells := mc, slots := ms, locals := lo }) mc ms n ∧ y.name = "<init>" ∧ (Cond.instanceMethod y).before args s = true) (hK : kk D cA s) (hh : hw D M0 H0 M H locs) (hn : As.length = n) (hsize : ls.size = nL) (hst : st0 = As.reverse ++ .ref b :: rest) (hW : (rest.map fun v => v.category).sum ≤ 8) (hdg : decode cc pc = .ok (.invokespecial index, 3)) (hf : cells + mc ≤ R.cells ∧ slots + ms ≤ R.slots)
    (k : ∀ (v : Option Value) (M1 : mp) (H1 : Heap) (locs1 : List Loc), post v M1 → hw D M0 H0 M1 H1 locs1 → H.size ≤ H1.size → (∀ q, q < H.size → M q = none → H1[q]? = H[q]?) → (∀ q, M1 q ≠ none → M q ≠ none ∨ H.size ≤ q) → W p l e R s m args below meth c H1 locs1 (cells + mc) (slots + ms) Q (F0 m (pc + 3) ls (v.toList ++ rest))) : W p l e R s m args below meth c H locs cells slots Q (F0 m pc ls st0) :=
  run_mut (va_runI S (hP H.size) cw (preM hK hh.1 _) rfl hn hsize hst (lv_room (rest := st0) hW) hdg hf) hh k
theorem cmIN {post : Option Value → mp → Prop} {host : String} (hP : MC l D cA y ws fr lo mc ms (.ref b :: As) M post) (S : CallFix p m c cc nL s args Ts own) (cw : va_CN R s args own index y host bytes maxL none ws ({ frames := fr, cells := mc, slots := ms, locals := lo }) mc ms n ∧ y.name = "<init>" ∧ (Cond.instanceMethod y).before args s = true) (hK : kk D cA s) (hh : hw D M0 H0 M H locs) (hn : As.length = n) (hsize : ls.size = nL) (hst : st0 = As.reverse ++ .ref b :: rest) (hW : (rest.map fun v => v.category).sum ≤ 8) (hdg : decode cc pc = .ok (.invokespecial index, 3)) (hf : cells + mc ≤ R.cells ∧ slots + ms ≤ R.slots)
    (k : ∀ (v : Option Value) (M1 : mp) (H1 : Heap) (locs1 : List Loc), post v M1 → hw D M0 H0 M1 H1 locs1 → H.size ≤ H1.size → (∀ q, q < H.size → M q = none → H1[q]? = H[q]?) → (∀ q, M1 q ≠ none → M q ≠ none ∨ H.size ≤ q) → W p l e R s m args below meth c H1 locs1 (cells + mc) (slots + ms) Q (F0 m (pc + 3) ls (v.toList ++ rest))) : W p l e R s m args below meth c H locs cells slots Q (F0 m pc ls st0) :=
  run_mut (va_runIN S (hP H.size) cw (preM hK hh.1 _) rfl hn hsize hst (lv_room (rest := st0) hW) hdg hf) hh k
end MapRows2
section Intro
variable {l : Launch} {D : va_G} {cA : Nat → ClassId} {y : MethodName} {ws ws' : List Cond} {fr lo mc ms maxL : Nat} {As : List Value} {M : mp} {cc : ByteArray}
/-- what a method's body begins with -/
abbrev Bg (p : Program) (s : State) (m : MethodId) (args : Array Value) (meth : Method) (c : Code) (D : va_G) (cA : Nat → ClassId) (y : MethodName) (cc : ByteArray) (ws : List Cond) (maxL : Nat) : Prop :=
  p.tables.exec = Jvm.exec ∧ c.code = cc ∧ s.vm.findClass y.cls = some m.cls ∧ (∀ w ∈ ws, w.before args s = true) ∧ c.maxLocals = maxL ∧ kk D cA s ∧ meth.name = y.name
theorem PC.of {v : Value} {ret : Option FieldType} (hy : plainName y.cls = true) (hww : ws = Cond.code y cc maxL ret :: ws') (hlen : (lg_sl As).length ≤ maxL)
    (body : ∀ (p : Program) (e : Env) (s : State) (m : MethodId) (args : Array Value) (below : List Frame) (meth : Method) (c : Code) (H : Heap) (ls : Array Slot), Bg p s m args meth c D cA y cc ws maxL → meth.sig.returnType = ret → meth.locks = false → mh D M H → lv_has ls maxL (lv_args 0 As) → s.heap = H →
      W p l e ({ frames := fr, cells := 0, slots := 0, locals := lo }) s m args below meth c H [] 0 0 (MQ below (fun _ st o t => o = .returned (some v) ∧ t.heap = st.heap) args s 0 0 (fun _ => False)) (F0 m 0 ls [])) : PC l D cA y ws fr lo As M (some v) := by
  refine Met.ofW hy hww ?_
  intro p e s m args below meth c s₁ B hml hv
  obtain ⟨rfl, hM, hK⟩ := hv
  rw [lg_entry_eq]
  exact body p e s m _ below meth c s.heap _ ⟨B.exec, B.bytes, findClass_of_methodNamed B.named, atoms_spec (ws := ws) B.pre, hml, hK, (name_of_methodNamed B.named B.method).1⟩ B.returns B.notSynchronized hM (lv_entry As hlen) rfl
/-- pure, a long -/
theorem PC.lg {r : Int64} (hy : plainName y.cls = true) (hww : ws = Cond.code y cc maxL (some .long) :: ws') (hlen : (lg_sl As).length ≤ maxL)
    (body : ∀ (p : Program) (e : Env) (s : State) (m : MethodId) (args : Array Value) (below : List Frame) (meth : Method) (c : Code) (H : Heap) (Q : State → Prop) (ls : Array Slot), Bg p s m args meth c D cA y cc ws maxL → mh D M H → lv_has ls maxL (lv_args 0 As) →
      (∀ (pc : Nat) (ls : Array Slot) (x : Int64), decode cc pc = .ok (.lreturn, 1) → x = r → W p l e ({ frames := fr, cells := 0, slots := 0, locals := lo }) s m args below meth c H [] 0 0 Q (F0 m pc ls [.long x])) →
      W p l e ({ frames := fr, cells := 0, slots := 0, locals := lo }) s m args below meth c H [] 0 0 Q (F0 m 0 ls [])) : PC l D cA y ws fr lo As M (some (.long r)) := by
  refine PC.of hy hww hlen ?_
  intro p e s m args below meth c H ls B hr hlk hM hl hH
  refine body p e s m args below meth c H _ ls B hM hl ?_
  intro pc ls x hdg hx
  subst hx
  exact W.lret B.1 B.2.1 hr (fun t ht hW => ⟨rfl, by rw [ht, hH]⟩) (fun q hq => by cases hq) hdg hlk
theorem PC.it {r : Int32} (hy : plainName y.cls = true) (hww : ws = Cond.code y cc maxL (some .int) :: ws') (hlen : (lg_sl As).length ≤ maxL)
    (body : ∀ (p : Program) (e : Env) (s : State) (m : MethodId) (args : Array Value) (below : List Frame) (meth : Method) (c : Code) (H : Heap) (Q : State → Prop) (ls : Array Slot), Bg p s m args meth c D cA y cc ws maxL → mh D M H → lv_has ls maxL (lv_args 0 As) →
      (∀ (pc : Nat) (ls : Array Slot) (x : Int32), decode cc pc = .ok (.ireturn, 1) → x = r → W p l e ({ frames := fr, cells := 0, slots := 0, locals := lo }) s m args below meth c H [] 0 0 Q (F0 m pc ls [.int x])) →
      W p l e ({ frames := fr, cells := 0, slots := 0, locals := lo }) s m args below meth c H [] 0 0 Q (F0 m 0 ls [])) : PC l D cA y ws fr lo As M (some (.int r)) := by
  refine PC.of hy hww hlen ?_
  intro p e s m args below meth c H ls B hr hlk hM hl hH
  refine body p e s m args below meth c H _ ls B hM hl ?_
  intro pc ls x hdg hx
  subst hx
  exact W.iret B.1 B.2.1 hr (fun t ht hW => ⟨rfl, by rw [ht, hH]⟩) (fun q hq => by cases hq) hdg hlk
def bI (b : Bool) : Int32 := if b then 1 else 0
theorem bI_nar (b : Bool) : narrow .boolean (.int (bI b)) = .int (bI b) := by cases b <;> rfl
theorem bI_01 (b : Bool) : bI b = 0 ∨ bI b = 1 := by cases b <;> simp [bI]
/-- pure, a boolean -/
theorem PC.zz {r : Bool} (hy : plainName y.cls = true) (hww : ws = Cond.code y cc maxL (some .boolean) :: ws') (hlen : (lg_sl As).length ≤ maxL)
    (body : ∀ (p : Program) (e : Env) (s : State) (m : MethodId) (args : Array Value) (below : List Frame) (meth : Method) (c : Code) (H : Heap) (Q : State → Prop) (ls : Array Slot), Bg p s m args meth c D cA y cc ws maxL → mh D M H → lv_has ls maxL (lv_args 0 As) →
      (∀ (pc : Nat) (ls : Array Slot) (x : Int32), decode cc pc = .ok (.ireturn, 1) → x = bI r → W p l e ({ frames := fr, cells := 0, slots := 0, locals := lo }) s m args below meth c H [] 0 0 Q (F0 m pc ls [.int x])) →
      W p l e ({ frames := fr, cells := 0, slots := 0, locals := lo }) s m args below meth c H [] 0 0 Q (F0 m 0 ls [])) : PC l D cA y ws fr lo As M (some (.int (bI r))) := by
  refine PC.of hy hww hlen ?_
  intro p e s m args below meth c H ls B hr hlk hM hl hH
  refine body p e s m args below meth c H _ ls B hM hl ?_
  intro pc ls x hdg hx
  subst hx
  exact W.zret B.1 B.2.1 hr (bI_nar r) (fun t ht hW => ⟨rfl, by rw [ht, hH]⟩) (fun q hq => by cases hq) hdg hlk
/-- a method that writes -/
theorem MC.of {post : Option Value → mp → Prop} {ret : Option FieldType} (hy : plainName y.cls = true) (hww : ws = Cond.code y cc maxL ret :: ws') (hlen : (lg_sl As).length ≤ maxL)
    (body : ∀ (p : Program) (e : Env) (s : State) (m : MethodId) (args : Array Value) (below : List Frame) (meth : Method) (c : Code) (Q : State → Prop) (ls : Array Slot), Bg p s m args meth c D cA y cc ws maxL → hw D M s.heap M s.heap [] → lv_has ls maxL (lv_args 0 As) →
      (∀ (M1 : mp) (H1 : Heap) (locs1 : List Loc) (cells slots pc : Nat) (ls : Array Slot), hw D M s.heap M1 H1 locs1 → post none M1 → cells ≤ mc → slots ≤ ms → decode cc pc = .ok (.return_, 1) → ret = none → W p l e ({ frames := fr, cells := mc, slots := ms, locals := lo }) s m args below meth c H1 locs1 cells slots Q (F0 m pc ls [])) →
      (∀ (M1 : mp) (H1 : Heap) (locs1 : List Loc) (cells slots pc : Nat) (ls : Array Slot) (x : Int32), hw D M s.heap M1 H1 locs1 → post (some (.int x)) M1 → cells ≤ mc → slots ≤ ms → decode cc pc = .ok (.ireturn, 1) → ret = some .int → W p l e ({ frames := fr, cells := mc, slots := ms, locals := lo }) s m args below meth c H1 locs1 cells slots Q (F0 m pc ls [.int x])) →
      (∀ (M1 : mp) (H1 : Heap) (locs1 : List Loc) (cells slots pc : Nat) (ls : Array Slot) (x : Int32) (b : Bool), hw D M s.heap M1 H1 locs1 → x = bI b → post (some (.int (bI b))) M1 → cells ≤ mc → slots ≤ ms → decode cc pc = .ok (.ireturn, 1) → ret = some .boolean → W p l e ({ frames := fr, cells := mc, slots := ms, locals := lo }) s m args below meth c H1 locs1 cells slots Q (F0 m pc ls [.int x])) →
      (∀ (M1 : mp) (H1 : Heap) (locs1 : List Loc) (cells slots pc : Nat) (ls : Array Slot) (x : Int64), hw D M s.heap M1 H1 locs1 → post (some (.long x)) M1 → cells ≤ mc → slots ≤ ms → decode cc pc = .ok (.lreturn, 1) → ret = some .long → W p l e ({ frames := fr, cells := mc, slots := ms, locals := lo }) s m args below meth c H1 locs1 cells slots Q (F0 m pc ls [.long x])) →
      (∀ (M1 : mp) (H1 : Heap) (locs1 : List Loc) (cells slots pc : Nat) (ls : Array Slot) (x : Nat) (C : String), hw D M s.heap M1 H1 locs1 → post (some (.ref x)) M1 → cells ≤ mc → slots ≤ ms → decode cc pc = .ok (.areturn, 1) → ret = some (.object C) → W p l e ({ frames := fr, cells := mc, slots := ms, locals := lo }) s m args below meth c H1 locs1 cells slots Q (F0 m pc ls [.ref x])) →
      W p l e ({ frames := fr, cells := mc, slots := ms, locals := lo }) s m args below meth c s.heap [] 0 0 Q (F0 m 0 ls [])) : MC l D cA y ws fr lo mc ms As M post := by
  intro sz
  refine Met.ofW hy hww ?_
  intro p e s m args below meth c s₁ B hml hv
  obtain ⟨rfl, hsz, hM, hK⟩ := hv
  subst hsz
  rw [lg_entry_eq]
  have hlk := B.notSynchronized
  have hend : ∀ (v : Option Value) (M1 : mp) (H1 : Heap) (locs1 : List Loc), hw D M s.heap M1 H1 locs1 → post v M1 → ∀ t : State, t.heap = H1 → s.WarmedH t.vm → MQc D M post s (.returned v) t := by
    intro v M1 H1 locs1 hh hp t ht hW
    obtain ⟨h1, s1, s2, s3, s4⟩ := hh
    exact ⟨v, M1, rfl, hp, by rw [ht]; exact h1, by rw [ht]; exact s1, fun q h h' => by rw [ht]; exact s2 q h h', s3⟩
  refine body p e s m _ below meth c _ _ ⟨B.exec, B.bytes, findClass_of_methodNamed B.named, atoms_spec (ws := ws) B.pre, hml, hK, (name_of_methodNamed B.named B.method).1⟩ (hw.rf hM) (lv_entry As hlen) ?_ ?_ ?_ ?_ ?_
  · intro M1 H1 locs1 cells slots pc ls hh hp hc1 hs1 hdg hret
    refine W.widen hc1 hs1 ?_
    exact W.vret B.exec B.bytes (by rw [B.returns, hret]) (hend _ _ _ _ hh hp) (fun q hq => hh.2.2.2.2 q hq) hdg hlk
  · intro M1 H1 locs1 cells slots pc ls x hh hp hc1 hs1 hdg hret
    refine W.widen hc1 hs1 ?_
    exact W.iret B.exec B.bytes (by rw [B.returns, hret]) (hend _ _ _ _ hh hp) (fun q hq => hh.2.2.2.2 q hq) hdg hlk
  · intro M1 H1 locs1 cells slots pc ls x b hh hx hp hc1 hs1 hdg hret
    subst hx
    refine W.widen hc1 hs1 ?_
    exact W.zret B.exec B.bytes (by rw [B.returns, hret]) (bI_nar b) (hend _ _ _ _ hh hp) (fun q hq => hh.2.2.2.2 q hq) hdg hlk
  · intro M1 H1 locs1 cells slots pc ls x hh hp hc1 hs1 hdg hret
    refine W.widen hc1 hs1 ?_
    exact W.lret B.exec B.bytes (by rw [B.returns, hret]) (hend _ _ _ _ hh hp) (fun q hq => hh.2.2.2.2 q hq) hdg hlk
  · intro M1 H1 locs1 cells slots pc ls x C hh hp hc1 hs1 hdg hret
    refine W.widen hc1 hs1 ?_
    exact W.aret B.exec B.bytes (by rw [B.returns, hret]) (Or.inl ⟨C, rfl⟩) (Or.inr ⟨x, rfl⟩) (hend _ _ _ _ hh hp) (fun q hq => hh.2.2.2.2 q hq) hdg hlk
end Intro
