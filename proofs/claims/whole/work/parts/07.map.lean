/-! A world as a MAP: address to cell. A store changes the map at one address; what the map doesn't name is not written. -/
abbrev mp : Type := Nat → Option va_E
def mu (M : mp) (a : Nat) (e : va_E) : mp := fun q => if q = a then some e else M q
theorem mu_eq (M : mp) (a : Nat) (e : va_E) : mu M a e a = some e := if_pos rfl
theorem mu_ne {M : mp} {a q : Nat} {e : va_E} (h : q ≠ a) : mu M a e q = M q := if_neg h
theorem mp_ne {M : mp} {a b : Nat} {x y : va_E} (h1 : M a = some x) (h2 : M b = some y) (h : x ≠ y) : a ≠ b := fun e => h (Option.some.inj (by rw [← h1, ← h2, e]))
theorem mu_at {M M1 : mp} {a : Nat} {e : va_E} (h : M1 = mu M a e) : M1 a = some e := by rw [h]; exact mu_eq M a e
theorem mu_kp {M M1 : mp} {a b : Nat} {e x : va_E} (h : M1 = mu M a e) (hne : b ≠ a) (hb : M b = some x) : M1 b = some x := by rw [h, mu_ne hne]; exact hb
def mh (D : va_G) (M : mp) (H : Heap) : Prop := ∀ (a : Nat) (e : va_E), M a = some e → va_at D vwCl (a, e) H
def mS (M0 : mp) (H0 : Heap) (M : mp) (H : Heap) (locs : List Loc) : Prop :=
  H0.size ≤ H.size ∧ (∀ q, q < H0.size → M0 q = none → H[q]? = H0[q]?) ∧ (∀ q, M q ≠ none → M0 q ≠ none ∨ H0.size ≤ q) ∧ ∀ l ∈ locs, M0 l.base ≠ none ∨ H0.size ≤ l.base
def hw (D : va_G) (M0 : mp) (H0 : Heap) (M : mp) (H : Heap) (locs : List Loc) : Prop := mh D M H ∧ mS M0 H0 M H locs
theorem mh.lt {D : va_G} {M : mp} {H : Heap} (h : mh D M H) {a : Nat} {e : va_E} (ha : M a = some e) : a < H.size := (h a e ha).lt
theorem mh.fresh {D : va_G} {M : mp} {H : Heap} (h : mh D M H) : M H.size = none := by
  cases hm : M H.size with
  | none => rfl
  | some e => exact absurd (h.lt hm) (Nat.lt_irrefl _)
theorem mh.ne {D : va_G} {M : mp} {H : Heap} (h : mh D M H) {a : Nat} {e : va_E} (ha : M a = some e) : a ≠ H.size := Nat.ne_of_lt (h.lt ha)
theorem mh.P1 {D : va_G} {M : mp} {H : Heap} (h : mh D M H) {a : Nat} {e : va_E} (ha : M a = some e) : va_P D vwCl [(a, e)] H := by
  intro k q hk
  match k, hk with
  | 0, hk => cases hk; exact h _ _ ha
  | k + 1, hk => simp at hk
theorem hw.rf {D : va_G} {M : mp} {H : Heap} (h : mh D M H) : hw D M H M H [] := ⟨h, Nat.le_refl _, fun _ _ _ => rfl, fun _ hq => Or.inl hq, fun _ hl => by cases hl⟩
theorem hw.put {D : va_G} {M0 M : mp} {H0 H H1 : Heap} {locs : List Loc} {a k : Nat} {e0 e : va_E} (h : hw D M0 H0 M H locs) (ha : M a = some e0) (z : H1.size = H.size) (oq : ∀ q : Nat, q ≠ a → H1[q]? = H[q]?) (he : va_at D vwCl (a, e) H1) : hw D M0 H0 (mu M a e) H1 (locs ++ [⟨a, k⟩]) := by
  obtain ⟨h1, s1, s2, s3, s4⟩ := h
  have hma : M0 a ≠ none ∨ H0.size ≤ a := s3 a (by rw [ha]; exact fun q => by cases q)
  refine ⟨fun q x hq => ?_, by rw [z]; exact s1, fun q hq hn => ?_, fun q hq => ?_, fun x hx => ?_⟩
  · by_cases hqa : q = a
    · subst hqa
      rw [mu_eq] at hq
      cases hq
      exact he
    · rw [mu_ne hqa] at hq
      exact (h1 q x hq).kept (oq q hqa)
  · rw [oq q (fun z => by subst z; rcases hma with g | g; exact g hn; omega)]
    exact s2 q hq hn
  · by_cases hqa : q = a
    · subst hqa; exact hma
    · rw [mu_ne hqa] at hq
      exact s3 q hq
  · rcases List.mem_append.mp hx with g | g
    · exact s4 x g
    · rw [List.mem_singleton.mp g]; exact hma
theorem hw.push {D : va_G} {M0 M : mp} {H0 H H1 : Heap} {locs : List Loc} {e : va_E} (h : hw D M0 H0 M H locs) (z : H1.size = H.size + 1) (oq : ∀ q : Nat, q < H.size → H1[q]? = H[q]?) (he : va_at D vwCl (H.size, e) H1) : hw D M0 H0 (mu M H.size e) H1 locs := by
  obtain ⟨h1, s1, s2, s3, s4⟩ := h
  refine ⟨fun q x hq => ?_, by omega, fun q hq hn => ?_, fun q hq => ?_, s4⟩
  · by_cases hqa : q = H.size
    · subst hqa
      rw [mu_eq] at hq
      cases hq
      exact he
    · rw [mu_ne hqa] at hq
      exact (h1 q x hq).kept (oq q (h1.lt hq))
  · rw [oq q (by omega)]
    exact s2 q hq hn
  · by_cases hqa : q = H.size
    · exact Or.inr (by omega)
    · rw [mu_ne hqa] at hq
      exact s3 q hq
/-- the words of nest mates, and the tables' classes, that hold at every state -/
def nest : List Cond := [.fieldLinkNest "GoldHeaps" 29 "GoldHeaps$Judge" "sharesGame" "LGoldHeaps$SharesGame;" "GoldHeaps", .fieldLinkNest "GoldHeaps" 49 "GoldHeaps$Judge" "bothGame" "LGoldHeaps$BothGame;" "GoldHeaps", .fieldLinkNest "GoldHeaps" 70 "GoldHeaps$Judge" "golden" "LGoldHeaps$Golden;" "GoldHeaps", .fieldLinkNest "GoldHeaps" 89 "GoldHeaps$Judge" "timesGame" "LGoldHeaps$TimesGame;" "GoldHeaps", .fieldLinkNest "GoldHeaps$Play" 105 "GoldHeaps$Judge" "sharesGame" "LGoldHeaps$SharesGame;" "GoldHeaps", .fieldLinkNest "GoldHeaps$Play" 114 "GoldHeaps$Judge" "bothGame" "LGoldHeaps$BothGame;" "GoldHeaps", .fieldLinkNest "GoldHeaps$Play" 84 "GoldHeaps$Judge" "timesGame" "LGoldHeaps$TimesGame;" "GoldHeaps",
  .methodLinkNest RX2 19 yX7_init "GoldHeaps", .methodLinkNest RX2 55 yX8_isWithin "GoldHeaps", .methodLinkNest RX2 59 yX8_oneIf "GoldHeaps", .methodLinkNest RX4 64 yX8_oneIf "GoldHeaps", .methodLinkNest RX7 34 yX8_isWithin "GoldHeaps"]
def tysA (cA : Nat → ClassId) : List (ClassId × FieldType) := [(cA 0, .long), (cA 1, .int), (cA 2, .boolean), (cA 3, .object "GoldHeaps$Sums"), (cA 4, .object "GoldHeaps$LostTable")]
def kk (D : va_G) (cA : Nat → ClassId) (U : State) : Prop := va_K D vwCl (tysA cA) U ∧ (∀ w ∈ nest, va_Nw w U) ∧ va_AO "GoldHeaps$Sums" U ∧ va_AO "GoldHeaps$LostTable" U
theorem kk.warm {D : va_G} {cA : Nat → ClassId} {s U : State} (hW : s.WarmedH U.vm) (h : kk D cA s) : kk D cA U := by
  refine ⟨va_K.moved hW.alike h.1, ?_, va_AO.moved hW.alike h.2.2.1, va_AO.moved hW.alike h.2.2.2⟩
  have h2 := h.2.1
  unfold nest at h2 ⊢
  refine List.forall_mem_cons.mpr ⟨va_Nw.warmF hW (h2 _ (List.mem_of_getElem? (i := 0) rfl)), ?_⟩
  refine List.forall_mem_cons.mpr ⟨va_Nw.warmF hW (h2 _ (List.mem_of_getElem? (i := 1) rfl)), ?_⟩
  refine List.forall_mem_cons.mpr ⟨va_Nw.warmF hW (h2 _ (List.mem_of_getElem? (i := 2) rfl)), ?_⟩
  refine List.forall_mem_cons.mpr ⟨va_Nw.warmF hW (h2 _ (List.mem_of_getElem? (i := 3) rfl)), ?_⟩
  refine List.forall_mem_cons.mpr ⟨va_Nw.warmF hW (h2 _ (List.mem_of_getElem? (i := 4) rfl)), ?_⟩
  refine List.forall_mem_cons.mpr ⟨va_Nw.warmF hW (h2 _ (List.mem_of_getElem? (i := 5) rfl)), ?_⟩
  refine List.forall_mem_cons.mpr ⟨va_Nw.warmF hW (h2 _ (List.mem_of_getElem? (i := 6) rfl)), ?_⟩
  refine List.forall_mem_cons.mpr ⟨va_Nw.warmM hW (h2 _ (List.mem_of_getElem? (i := 7) rfl)), ?_⟩
  refine List.forall_mem_cons.mpr ⟨va_Nw.warmM hW (h2 _ (List.mem_of_getElem? (i := 8) rfl)), ?_⟩
  refine List.forall_mem_cons.mpr ⟨va_Nw.warmM hW (h2 _ (List.mem_of_getElem? (i := 9) rfl)), ?_⟩
  refine List.forall_mem_cons.mpr ⟨va_Nw.warmM hW (h2 _ (List.mem_of_getElem? (i := 10) rfl)), ?_⟩
  refine List.forall_mem_cons.mpr ⟨va_Nw.warmM hW (h2 _ (List.mem_of_getElem? (i := 11) rfl)), ?_⟩
  exact fun _ h => absurd h List.not_mem_nil
theorem kk.same {D : va_G} {cA : Nat → ClassId} {u U : State} (hv : u.vm = U.vm) (h : kk D cA u) : kk D cA U := by
  have ha : u.vm.Alike U.vm := by rw [hv]; exact Vm.Alike.refl U.vm
  refine ⟨va_K.moved ha h.1, fun w hw => ?_, va_AO.moved ha h.2.2.1, va_AO.moved ha h.2.2.2⟩
  exact va_Nw.same (by
    have hall : nest.all (fun w => w.onTables) = true := by decide +kernel
    exact List.all_eq_true.mp hall w hw) hv (h.2.1 w hw)
/-- a PURE contract: nothing is written or made, the answer is told -/
def PC (l : Launch) (D : va_G) (cA : Nat → ClassId) (y : MethodName) (ws : List Cond) (fr lo : Nat) (As : List Value) (M : mp) (v : Option Value) : Prop :=
  Met l y ws ({ frames := fr, cells := 0, slots := 0, locals := lo }) (va_Pc As (fun U => mh D M U.heap ∧ kk D cA U)) (fun _ st o t => o = .returned v ∧ t.heap = st.heap) 0 0 (fun _ => False)
/-- what a call that writes leaves -/
def MQc (D : va_G) (M : mp) (post : Option Value → mp → Prop) : State → Outcome → State → Prop := fun st o t => ∃ (v : Option Value) (M' : mp), o = .returned v ∧ post v M' ∧ mh D M' t.heap ∧ st.heap.size ≤ t.heap.size ∧ (∀ q, q < st.heap.size → M q = none → t.heap[q]? = st.heap[q]?) ∧ (∀ q, M' q ≠ none → M q ≠ none ∨ st.heap.size ≤ q)
def MC (l : Launch) (D : va_G) (cA : Nat → ClassId) (y : MethodName) (ws : List Cond) (fr lo mc ms : Nat) (As : List Value) (M : mp) (post : Option Value → mp → Prop) : Prop :=
  ∀ sz : Nat, Met l y ws ({ frames := fr, cells := mc, slots := ms, locals := lo }) (va_Pc As (fun U => U.heap.size = sz ∧ mh D M U.heap ∧ kk D cA U)) (fun _ => MQc D M post) mc ms (fun q => M q ≠ none ∨ sz ≤ q)
section MapRows
variable {p : Program} {l : Launch} {e : Env} {R : Room} {s : State} {m : MethodId} {args : Array Value} {below : List Frame} {meth : Method} {c : Code} {H : Heap} {locs : List Loc} {cells slots : Nat} {Q : State → Prop}
variable {cc : ByteArray} {pc : Nat} {ls : Array Slot} {rest : List Value} {D : va_G} {a : Nat} {H0 : Heap} {M M0 : mp} {cA : Nat → ClassId}
theorem m_get (hexec : p.tables.exec = Jvm.exec) (hb : c.code = cc) {own ref C : String} {T : u_T} {N ci index : Nat} {Ts : List Cond} (hts : ∀ w ∈ Ts, w.before args s = true) (hin : ∀ w ∈ u_ws C T N, w ∈ Ts) (hown : s.vm.findClass own = some m.cls) (hK : kk D cA s) (hM : mh D M H) {fs : List Value} (ha : M a = some (.inr (ci, fs))) (hc : vwCl[ci]? = some (C, T, N)) (k : Nat) (hk : k < N) (hlink : (Cond.fieldLink own index ref (T k).2.1 (T k).2.2.1).before args s = true) (hsame : ∀ x, s.fieldFound? (T k).1 (T k).2.1 (T k).2.2.1 = some x → s.fieldFound? ref (T k).2.1 (T k).2.2.1 = some x) {v : Value} (hv : fs[k]? = some v) (hdg : decode cc pc = .ok (.getfield index, 3))
    (kk : W p l e R s m args below meth c H locs cells slots Q (F0 m (pc + 3) ls (v :: rest))) : W p l e R s m args below meth c H locs cells slots Q (F0 m pc ls (.ref a :: rest)) :=
  va_get hexec hb hts hin hown hK.1 (hM.P1 ha) 0 rfl hc k hk hlink hsame hv hdg kk
theorem m_getN (hexec : p.tables.exec = Jvm.exec) (hb : c.code = cc) {own ref C host : String} {T : u_T} {N ci index : Nat} {Ts : List Cond} (hts : ∀ w ∈ Ts, w.before args s = true) (hin : ∀ w ∈ u_ws C T N, w ∈ Ts) (hown : s.vm.findClass own = some m.cls) (hK : kk D cA s) (hM : mh D M H) {fs : List Value} (ha : M a = some (.inr (ci, fs))) (hc : vwCl[ci]? = some (C, T, N)) (k : Nat) (hk : k < N) (hlink : (Cond.fieldLinkNest own index ref (T k).2.1 (T k).2.2.1 host).before args s = true) (hsame : ∀ x, s.fieldFound? (T k).1 (T k).2.1 (T k).2.2.1 = some x → s.fieldFound? ref (T k).2.1 (T k).2.2.1 = some x) {v : Value} (hv : fs[k]? = some v) (hdg : decode cc pc = .ok (.getfield index, 3))
    (kk : W p l e R s m args below meth c H locs cells slots Q (F0 m (pc + 3) ls (v :: rest))) : W p l e R s m args below meth c H locs cells slots Q (F0 m pc ls (.ref a :: rest)) :=
  va_getN hexec hb hts hin hown hK.1 (hM.P1 ha) 0 rfl hc k hk hlink hsame hv hdg kk
theorem m_lald (hexec : p.tables.exec = Jvm.exec) (hb : c.code = cc) (hK : kk D cA s) (hM : mh D M H) {n : Nat} {f : Nat → Int64} (ha : M a = some (.inl (cA 0, n, .inr (.inl f)))) {i : Int32} (hin : vp_in i n) (hdg : decode cc pc = .ok (.laload, 1))
    (kk : W p l e R s m args below meth c H locs cells slots Q (F0 m (pc + 1) ls (.long (f i.toNatClampNeg) :: rest))) : W p l e R s m args below meth c H locs cells slots Q (F0 m pc ls (.int i :: .ref a :: rest)) :=
  va_lald hexec hb hK.1 (hM.P1 ha) 0 0 rfl rfl hin hdg kk
theorem m_iald (hexec : p.tables.exec = Jvm.exec) (hb : c.code = cc) (hK : kk D cA s) (hM : mh D M H) {n : Nat} {f : Nat → Int32} (ha : M a = some (.inl (cA 1, n, .inl f))) {i : Int32} (hin : vp_in i n) (hdg : decode cc pc = .ok (.iaload, 1))
    (kk : W p l e R s m args below meth c H locs cells slots Q (F0 m (pc + 1) ls (.int (f i.toNatClampNeg) :: rest))) : W p l e R s m args below meth c H locs cells slots Q (F0 m pc ls (.int i :: .ref a :: rest)) :=
  va_iald hexec hb hK.1 (hM.P1 ha) 0 1 rfl rfl hin hdg kk
theorem m_zald (hexec : p.tables.exec = Jvm.exec) (hb : c.code = cc) (hK : kk D cA s) (hM : mh D M H) {n : Nat} {f : Nat → Int32} (ha : M a = some (.inl (cA 2, n, .inl f))) {i : Int32} (hin : vp_in i n) (hdg : decode cc pc = .ok (.baload, 1))
    (kk : W p l e R s m args below meth c H locs cells slots Q (F0 m (pc + 1) ls (.int (f i.toNatClampNeg) :: rest))) : W p l e R s m args below meth c H locs cells slots Q (F0 m pc ls (.int i :: .ref a :: rest)) :=
  va_zald hexec hb hK.1 (hM.P1 ha) 0 2 rfl rfl hin hdg kk
theorem m_aldS (hexec : p.tables.exec = Jvm.exec) (hb : c.code = cc) (hK : kk D cA s) (hM : mh D M H) {n : Nat} {f : Nat → Option Nat} (ha : M a = some (.inl (cA 3, n, .inr (.inr (.inr (.inr f)))))) {i : Int32} (hin : vp_in i n) (hdg : decode cc pc = .ok (.aaload, 1))
    (kk : W p l e R s m args below meth c H locs cells slots Q (F0 m (pc + 1) ls (va_rf (f i.toNatClampNeg) :: rest))) : W p l e R s m args below meth c H locs cells slots Q (F0 m pc ls (.int i :: .ref a :: rest)) :=
  va_aldq hexec hb hK.1 (hM.P1 ha) 0 3 rfl rfl hin hdg kk
theorem m_aldT (hexec : p.tables.exec = Jvm.exec) (hb : c.code = cc) (hK : kk D cA s) (hM : mh D M H) {n : Nat} {f : Nat → Option Nat} (ha : M a = some (.inl (cA 4, n, .inr (.inr (.inr (.inr f)))))) {i : Int32} (hin : vp_in i n) (hdg : decode cc pc = .ok (.aaload, 1))
    (kk : W p l e R s m args below meth c H locs cells slots Q (F0 m (pc + 1) ls (va_rf (f i.toNatClampNeg) :: rest))) : W p l e R s m args below meth c H locs cells slots Q (F0 m pc ls (.int i :: .ref a :: rest)) :=
  va_aldq hexec hb hK.1 (hM.P1 ha) 0 4 rfl rfl hin hdg kk
theorem m_alen (hexec : p.tables.exec = Jvm.exec) (hb : c.code = cc) (hK : kk D cA s) (hM : mh D M H) {x : vp_A} {t0 : Nat} (ha : M a = some (.inl (cA t0, x))) {ty : FieldType} (ht : (tysA cA)[t0]? = some (cA t0, ty)) {v : Int32} (hv : Int32.ofNat x.1 = v) (hdg : decode cc pc = .ok (.arraylength, 1))
    (kk : W p l e R s m args below meth c H locs cells slots Q (F0 m (pc + 1) ls (.int v :: rest))) : W p l e R s m args below meth c H locs cells slots Q (F0 m pc ls (.ref a :: rest)) :=
  va_alen hexec hb hK.1 (hM.P1 ha) 0 t0 rfl ht hv hdg kk
theorem m_put (hexec : p.tables.exec = Jvm.exec) (hb : c.code = cc) {own ref C : String} {T : u_T} {N ci index : Nat} {Ts : List Cond} (hts : ∀ w ∈ Ts, w.before args s = true) (hin : ∀ w ∈ u_ws C T N, w ∈ Ts) (ty0 : Nat → FieldType) (hty : ∀ k, k < N → parseFieldDescriptor (T k).2.2.1 = some (ty0 k)) (hnm : ∀ a, a < N → ∀ b, b < N → a ≠ b → (T a).2.1 ≠ (T b).2.1) (hown : s.vm.findClass own = some m.cls) (hK : kk D cA s) (hh : hw D M0 H0 M H locs) {fs : List Value} (ha : M a = some (.inr (ci, fs))) (hc : vwCl[ci]? = some (C, T, N)) (k : Nat) (hk : k < N) (hlink : (Cond.fieldLink own index ref (T k).2.1 (T k).2.2.1).before args s = true) (hsame : ∀ x, s.fieldFound? (T k).1 (T k).2.1 (T k).2.2.1 = some x → s.fieldFound? ref (T k).2.1 (T k).2.2.1 = some x) (hfin : (T k).2.2.2 = false) {ty : FieldType} {v : Value} (hd : parseFieldDescriptor (T k).2.2.1 = some ty) (hn : narrow ty v = v) (hfit : fits ty v = true) (hl : k < fs.length)
    (hdg : decode cc pc = .ok (.putfield index, 3)) (kk : ∀ (M1 : mp) (H1 : Heap) (locs1 : List Loc), M1 = mu M a (.inr (ci, fs.set k v)) → hw D M0 H0 M1 H1 locs1 → W p l e R s m args below meth c H1 locs1 cells slots Q (F0 m (pc + 3) ls rest)) : W p l e R s m args below meth c H locs cells slots Q (F0 m pc ls (v :: .ref a :: rest)) := by
  have hap := va_apart (own := own) hts hin ty0 hty hnm hK.1 hc
  obtain ⟨r, h1, cell, q1, q2, q3, q4⟩ := hh.1 a _ ha
  have hr : r = (C, T, N) := Option.some.inj (h1.symm.trans hc)
  subst hr
  obtain ⟨hS, hfc, kC, hkC, hkind⟩ := hK.1.1 ci _ hc
  obtain ⟨cf, kf, fi, f, hi, hsl⟩ := hS k hk
  have hlay := hts _ (hin _ (u_in_lay hk))
  unfold u_lay at hlay
  rw [if_neg (by rw [hfin]; decide)] at hlay
  have hst := (u_facts hfc hkC (u_lays hts hin hk) hi).1
  have h6 := u_store hfc hkC hkind hlay hi hd hn hfit
  refine W.putK hexec hb (f := f) ⟨hown, hlink, ⟨_, _, _, hsame _ hi⟩, hst⟩ (by rw [q2]; exact h6) q1 q3 (by rw [hsl]; exact k2_hasslot (q4 k hk)) rfl rfl hdg fun H' e1 e2 e3 => ?_
  rw [hsl] at e1 ⊢
  exact kk _ H' _ rfl (hh.put ha e2 e3 ⟨_, hc, t_OB.to (V := updV (vp_V fs) k v) ⟨_, e1, q2, q3, t_set q4 hap hk v⟩ (fun j _ => vp_updV_set hl v j)⟩)
theorem m_putF (hexec : p.tables.exec = Jvm.exec) (hb : c.code = cc) {own ref C : String} {T : u_T} {N ci index : Nat} {Ts : List Cond} (hts : ∀ w ∈ Ts, w.before args s = true) (hin : ∀ w ∈ u_ws C T N, w ∈ Ts) (ty0 : Nat → FieldType) (hty : ∀ k, k < N → parseFieldDescriptor (T k).2.2.1 = some (ty0 k)) (hnm : ∀ a, a < N → ∀ b, b < N → a ≠ b → (T a).2.1 ≠ (T b).2.1) (hown : s.vm.findClass own = some m.cls) (hK : kk D cA s) (hh : hw D M0 H0 M H locs) {fs : List Value} (ha : M a = some (.inr (ci, fs))) (hc : vwCl[ci]? = some (C, T, N)) (k : Nat) (hk : k < N) (hlink : (Cond.fieldLink own index ref (T k).2.1 (T k).2.2.1).before args s = true) (hsame : ∀ x, s.fieldFound? (T k).1 (T k).2.1 (T k).2.2.1 = some x → s.fieldFound? ref (T k).2.1 (T k).2.2.1 = some x) (hfin : (T k).2.2.2 = true) (hin2 : meth.name = "<init>") (hdecl : (T k).1 = own) {ty : FieldType} {v : Value} (hd : parseFieldDescriptor (T k).2.2.1 = some ty) (hn : narrow ty v = v) (hfit : fits ty v = true) (hl : k < fs.length)
    (hdg : decode cc pc = .ok (.putfield index, 3)) (kk : ∀ (M1 : mp) (H1 : Heap) (locs1 : List Loc), M1 = mu M a (.inr (ci, fs.set k v)) → hw D M0 H0 M1 H1 locs1 → W p l e R s m args below meth c H1 locs1 cells slots Q (F0 m (pc + 3) ls rest)) : W p l e R s m args below meth c H locs cells slots Q (F0 m pc ls (v :: .ref a :: rest)) := by
  have hap := va_apart (own := own) hts hin ty0 hty hnm hK.1 hc
  obtain ⟨r, h1, cell, q1, q2, q3, q4⟩ := hh.1 a _ ha
  have hr : r = (C, T, N) := Option.some.inj (h1.symm.trans hc)
  subst hr
  obtain ⟨hS, hfc, kC, hkC, hkind⟩ := hK.1.1 ci _ hc
  obtain ⟨cf, kf, fi, f, hi, hsl⟩ := hS k hk
  have hlay := hts _ (hin _ (u_in_lay hk))
  unfold u_lay at hlay
  rw [if_pos hfin] at hlay
  have hst := (u_facts hfc hkC (u_lays hts hin hk) hi).1
  have hcf : m.cls = cf := by
    obtain ⟨_, _, c', _, _, _, -, -, hf', -, -, -, hown2, -⟩ := Cond.laysFinal_spec hlay
    have e1 : c' = cf := by have := hi.symm.trans hf'; simp at this; exact this.1.symm
    rw [hdecl] at hown2
    rw [← e1]; exact Option.some.inj (hown.symm.trans hown2)
  have h6 := u_fits hfc hkC hkind (Or.inr hlay) hi hd hn hfit
  refine W.putFinK hexec hb hown hlink (hsame _ hi) hst hcf hin2 (by rw [q2]; exact h6) q1 q3 (by rw [hsl]; exact k2_hasslot (q4 k hk)) rfl rfl hdg fun H' e1 e2 e3 => ?_
  rw [hsl] at e1 ⊢
  exact kk _ H' _ rfl (hh.put ha e2 e3 ⟨_, hc, t_OB.to (V := updV (vp_V fs) k v) ⟨_, e1, q2, q3, t_set q4 hap hk v⟩ (fun j _ => vp_updV_set hl v j)⟩)
theorem m_last (hexec : p.tables.exec = Jvm.exec) (hb : c.code = cc) (hK : kk D cA s) (hh : hw D M0 H0 M H locs) {n : Nat} {f : Nat → Int64} (ha : M a = some (.inl (cA 0, n, .inr (.inl f)))) {i : Int32} {x : Int64} (hin : vp_in i n) (hdg : decode cc pc = .ok (.lastore, 1))
    (kk : ∀ (M1 : mp) (H1 : Heap) (locs1 : List Loc), M1 = mu M a (.inl (cA 0, n, .inr (.inl (vp_updL f i.toNatClampNeg x)))) → hw D M0 H0 M1 H1 locs1 → W p l e R s m args below meth c H1 locs1 cells slots Q (F0 m (pc + 1) ls rest)) : W p l e R s m args below meth c H locs cells slots Q (F0 m pc ls (.long x :: .int i :: .ref a :: rest)) := by
  refine W.last hexec hb (hh.1 a _ ha) ((hK.1.2 0 _ rfl).1 n (fun j => .long (f j))) (fun q => by cases q) (by show ¬ (i < 0 ∨ (arrV _ _ _).slots.size ≤ _); rw [arrV_size]; exact hin) rfl rfl hdg fun H1 e z oq => ?_
  refine kk _ H1 _ rfl (hh.put ha z oq ?_)
  show H1[a]? = some (vp_cell _ _)
  rw [e, vp_cell_l, vp_cell_l, arrV_store]
  congr 2
  funext q
  by_cases hq : q = i.toNatClampNeg
  · subst hq; simp [updV, vp_updL]
  · simp [updV, vp_updL, hq]
theorem m_iast (hexec : p.tables.exec = Jvm.exec) (hb : c.code = cc) (hK : kk D cA s) (hh : hw D M0 H0 M H locs) {n : Nat} {f : Nat → Int32} (ha : M a = some (.inl (cA 1, n, .inl f))) {i : Int32} {x : Int32} (hin : vp_in i n) (hdg : decode cc pc = .ok (.iastore, 1))
    (kk : ∀ (M1 : mp) (H1 : Heap) (locs1 : List Loc), M1 = mu M a (.inl (cA 1, n, .inl (upd f i.toNatClampNeg x))) → hw D M0 H0 M1 H1 locs1 → W p l e R s m args below meth c H1 locs1 cells slots Q (F0 m (pc + 1) ls rest)) : W p l e R s m args below meth c H locs cells slots Q (F0 m pc ls (.int x :: .int i :: .ref a :: rest)) := by
  refine W.iast hexec hb (hh.1 a _ ha) ((hK.1.2 1 _ rfl).1 n (fun j => .int (f j))) (fun q => by cases q) (by show ¬ (i < 0 ∨ (arrV _ _ _).slots.size ≤ _); rw [arrV_size]; exact hin) rfl rfl hdg fun H1 e z oq => ?_
  refine kk _ H1 _ rfl (hh.put ha z oq ?_)
  show H1[a]? = some (vp_cell _ _)
  rw [e, vp_cell_i, vp_cell_i, arrV_store]
  congr 2
  funext q
  by_cases hq : q = i.toNatClampNeg
  · subst hq; simp [updV, upd]
  · simp [updV, upd, hq]
theorem m_zast (hexec : p.tables.exec = Jvm.exec) (hb : c.code = cc) (hK : kk D cA s) (hh : hw D M0 H0 M H locs) {n : Nat} {f : Nat → Int32} (ha : M a = some (.inl (cA 2, n, .inl f))) {i : Int32} {x : Int32} (hx01 : x = 0 ∨ x = 1) (hin : vp_in i n) (hdg : decode cc pc = .ok (.bastore, 1))
    (kk : ∀ (M1 : mp) (H1 : Heap) (locs1 : List Loc), M1 = mu M a (.inl (cA 2, n, .inl (upd f i.toNatClampNeg x))) → hw D M0 H0 M1 H1 locs1 → W p l e R s m args below meth c H1 locs1 cells slots Q (F0 m (pc + 1) ls rest)) : W p l e R s m args below meth c H locs cells slots Q (F0 m pc ls (.int x :: .int i :: .ref a :: rest)) := by
  refine W.zast hexec hb (hh.1 a _ ha) ((hK.1.2 2 _ rfl).1 n (fun j => .int (f j))) (fun q => by cases q) (by show ¬ (i < 0 ∨ (arrV _ _ _).slots.size ≤ _); rw [arrV_size]; exact hin) rfl rfl hdg fun H1 e z oq => ?_
  refine kk _ H1 _ rfl (hh.put ha z oq ?_)
  show H1[a]? = some (vp_cell _ _)
  rw [e, vp_cell_i, vp_cell_i, arrV_store]
  congr 2
  funext q
  by_cases hq : q = i.toNatClampNeg
  · subst hq
    rcases hx01 with h | h <;> subst h <;> simp [updV, upd, narrow]
  · simp [updV, upd, hq]
end MapRows
