section MapRows3
variable {p : Program} {l : Launch} {e : Env} {R : Room} {s : State} {m : MethodId} {args : Array Value} {below : List Frame} {meth : Method} {c : Code} {H : Heap} {locs : List Loc} {cells slots : Nat} {Q : State → Prop}
variable {cc : ByteArray} {pc : Nat} {ls : Array Slot} {rest : List Value} {D : va_G} {a : Nat} {H0 : Heap} {M M0 : mp} {cA : Nat → ClassId}
theorem m_laldN {k n : Nat} (hx : p.tables.exec = Jvm.exec) (hb : c.code = cc) (hK : kk D cA s) (hM : mh D M H) {f : Nat → Int64} (ha : M a = some (.inl (cA 0, n, .inr (.inl f)))) {i : Int32} (hi : i = nI k) (hk : k < n) (hn : n < 2 ^ 31) (hdg : decode cc pc = .ok (.laload, 1))
    (kk : W p l e R s m args below meth c H locs cells slots Q (F0 m (pc + 1) ls (.long (f k) :: rest))) : W p l e R s m args below meth c H locs cells slots Q (F0 m pc ls (.int i :: .ref a :: rest)) := by
  subst hi
  refine m_lald hx hb hK hM ha (vp_in_nI hk hn) hdg ?_
  rw [nI_clamp (by omega)]
  exact kk
theorem m_ialdN {k n : Nat} (hx : p.tables.exec = Jvm.exec) (hb : c.code = cc) (hK : kk D cA s) (hM : mh D M H) {f : Nat → Int32} (ha : M a = some (.inl (cA 1, n, .inl f))) {i : Int32} (hi : i = nI k) (hk : k < n) (hn : n < 2 ^ 31) (hdg : decode cc pc = .ok (.iaload, 1))
    (kk : W p l e R s m args below meth c H locs cells slots Q (F0 m (pc + 1) ls (.int (f k) :: rest))) : W p l e R s m args below meth c H locs cells slots Q (F0 m pc ls (.int i :: .ref a :: rest)) := by
  subst hi
  refine m_iald hx hb hK hM ha (vp_in_nI hk hn) hdg ?_
  rw [nI_clamp (by omega)]
  exact kk
theorem m_zaldN {k n : Nat} (hx : p.tables.exec = Jvm.exec) (hb : c.code = cc) (hK : kk D cA s) (hM : mh D M H) {f : Nat → Int32} (ha : M a = some (.inl (cA 2, n, .inl f))) {i : Int32} (hi : i = nI k) (hk : k < n) (hn : n < 2 ^ 31) (hdg : decode cc pc = .ok (.baload, 1))
    (kk : W p l e R s m args below meth c H locs cells slots Q (F0 m (pc + 1) ls (.int (f k) :: rest))) : W p l e R s m args below meth c H locs cells slots Q (F0 m pc ls (.int i :: .ref a :: rest)) := by
  subst hi
  refine m_zald hx hb hK hM ha (vp_in_nI hk hn) hdg ?_
  rw [nI_clamp (by omega)]
  exact kk
theorem m_aldSN {k n : Nat} (hx : p.tables.exec = Jvm.exec) (hb : c.code = cc) (hK : kk D cA s) (hM : mh D M H) {f : Nat → Option Nat} (ha : M a = some (.inl (cA 3, n, .inr (.inr (.inr (.inr f)))))) {i : Int32} (hi : i = nI k) (hk : k < n) (hn : n < 2 ^ 31) (hdg : decode cc pc = .ok (.aaload, 1))
    (kk : W p l e R s m args below meth c H locs cells slots Q (F0 m (pc + 1) ls (va_rf (f k) :: rest))) : W p l e R s m args below meth c H locs cells slots Q (F0 m pc ls (.int i :: .ref a :: rest)) := by
  subst hi
  refine m_aldS hx hb hK hM ha (vp_in_nI hk hn) hdg ?_
  rw [nI_clamp (by omega)]
  exact kk
theorem m_aldTN {k n : Nat} (hx : p.tables.exec = Jvm.exec) (hb : c.code = cc) (hK : kk D cA s) (hM : mh D M H) {f : Nat → Option Nat} (ha : M a = some (.inl (cA 4, n, .inr (.inr (.inr (.inr f)))))) {i : Int32} (hi : i = nI k) (hk : k < n) (hn : n < 2 ^ 31) (hdg : decode cc pc = .ok (.aaload, 1))
    (kk : W p l e R s m args below meth c H locs cells slots Q (F0 m (pc + 1) ls (va_rf (f k) :: rest))) : W p l e R s m args below meth c H locs cells slots Q (F0 m pc ls (.int i :: .ref a :: rest)) := by
  subst hi
  refine m_aldT hx hb hK hM ha (vp_in_nI hk hn) hdg ?_
  rw [nI_clamp (by omega)]
  exact kk
theorem m_lastN {k n : Nat} (hx : p.tables.exec = Jvm.exec) (hb : c.code = cc) (hK : kk D cA s) (hh : hw D M0 H0 M H locs) {f : Nat → Int64} (ha : M a = some (.inl (cA 0, n, .inr (.inl f)))) {i : Int32} {x : Int64} (hi : i = nI k) (hk : k < n) (hn : n < 2 ^ 31) (hdg : decode cc pc = .ok (.lastore, 1))
    (kk : ∀ (M1 : mp) (H1 : Heap) (locs1 : List Loc), M1 = mu M a (.inl (cA 0, n, .inr (.inl (vp_updL f k x)))) → hw D M0 H0 M1 H1 locs1 → W p l e R s m args below meth c H1 locs1 cells slots Q (F0 m (pc + 1) ls rest)) : W p l e R s m args below meth c H locs cells slots Q (F0 m pc ls (.long x :: .int i :: .ref a :: rest)) := by
  subst hi
  refine m_last hx hb hK hh ha (vp_in_nI hk hn) hdg ?_
  rw [nI_clamp (by omega)]
  exact kk
theorem m_iastN {k n : Nat} (hx : p.tables.exec = Jvm.exec) (hb : c.code = cc) (hK : kk D cA s) (hh : hw D M0 H0 M H locs) {f : Nat → Int32} (ha : M a = some (.inl (cA 1, n, .inl f))) {i : Int32} {x : Int32} (hi : i = nI k) (hk : k < n) (hn : n < 2 ^ 31) (hdg : decode cc pc = .ok (.iastore, 1))
    (kk : ∀ (M1 : mp) (H1 : Heap) (locs1 : List Loc), M1 = mu M a (.inl (cA 1, n, .inl (upd f k x))) → hw D M0 H0 M1 H1 locs1 → W p l e R s m args below meth c H1 locs1 cells slots Q (F0 m (pc + 1) ls rest)) : W p l e R s m args below meth c H locs cells slots Q (F0 m pc ls (.int x :: .int i :: .ref a :: rest)) := by
  subst hi
  refine m_iast hx hb hK hh ha (vp_in_nI hk hn) hdg ?_
  rw [nI_clamp (by omega)]
  exact kk
theorem m_zastN {k n : Nat} (hx : p.tables.exec = Jvm.exec) (hb : c.code = cc) (hK : kk D cA s) (hh : hw D M0 H0 M H locs) {f : Nat → Int32} (ha : M a = some (.inl (cA 2, n, .inl f))) {i : Int32} {x : Int32} (h01 : x = 0 ∨ x = 1) (hi : i = nI k) (hk : k < n) (hn : n < 2 ^ 31) (hdg : decode cc pc = .ok (.bastore, 1))
    (kk : ∀ (M1 : mp) (H1 : Heap) (locs1 : List Loc), M1 = mu M a (.inl (cA 2, n, .inl (upd f k x))) → hw D M0 H0 M1 H1 locs1 → W p l e R s m args below meth c H1 locs1 cells slots Q (F0 m (pc + 1) ls rest)) : W p l e R s m args below meth c H locs cells slots Q (F0 m pc ls (.int x :: .int i :: .ref a :: rest)) := by
  subst hi
  refine m_zast hx hb hK hh ha h01 (vp_in_nI hk hn) hdg ?_
  rw [nI_clamp (by omega)]
  exact kk
theorem m_astqN (t0 : Nat) {k n : Nat} {r : vw_C} {ci : Nat} (ht : (tysA cA)[t0]? = some (cA t0, .object r.1)) (hx : p.tables.exec = Jvm.exec) (hb : c.code = cc) (hK : kk D cA s) (hh : hw D M0 H0 M H locs) {v : Nat} {vs : List Value} {f : Nat → Option Nat} (ha : M a = some (.inl (cA t0, n, .inr (.inr (.inr (.inr f)))))) (hv : M v = some (.inr (ci, vs))) (hc : vwCl[ci]? = some r) {i : Int32} (hi : i = nI k) (hk : k < n) (hn : n < 2 ^ 31) (hdg : decode cc pc = .ok (.aastore, 1))
    (kk : ∀ (M1 : mp) (H1 : Heap) (locs1 : List Loc), M1 = mu M a (.inl (cA t0, n, .inr (.inr (.inr (.inr (va_up f k (some v))))))) → hw D M0 H0 M1 H1 locs1 → W p l e R s m args below meth c H1 locs1 cells slots Q (F0 m (pc + 1) ls rest)) : W p l e R s m args below meth c H locs cells slots Q (F0 m pc ls (.ref v :: .int i :: .ref a :: rest)) := by
  subst hi
  refine m_astq t0 ht hx hb hK hh ha hv hc (vp_in_nI hk hn) hdg ?_
  rw [nI_clamp (by omega)]
  exact kk
end MapRows3
/-! small numbers as machine numbers -/
theorem l12 : (1000000000000 : Int64) = lN 1000000000000 := by decide
theorem l_0 : (0 : Int64) = lN 0 := by decide
theorem l_1 : (1 : Int64) = lN 1 := by decide
theorem l_2 : (2 : Int64) = lN 2 := by decide
theorem ln_le {a b : Nat} (ha : a < 2 ^ 63) (hb : b < 2 ^ 63) : lN a ≤ lN b ↔ a ≤ b := pk_lLE ha hb
theorem ln_lt {a b : Nat} (ha : a < 2 ^ 63) (hb : b < 2 ^ 63) : lN a < lN b ↔ a < b := pk_lLT ha hb
theorem ln_eq {a b : Nat} (ha : a < 2 ^ 63) (hb : b < 2 ^ 63) : lN a = lN b ↔ a = b := pk_lEQ ha hb
/-- a long that is between 0 and N is a small number -/
theorem ln_of {x : Int64} {N : Nat} (hN : N < 2 ^ 63) (h0 : 0 ≤ x) (h1 : x ≤ lN N) : ∃ n : Nat, n ≤ N ∧ x = lN n := by
  obtain ⟨k, hk, rfl⟩ := pk_lOf (x := x) (by rw [Int64.not_lt]; exact h0)
  exact ⟨k, (ln_le hk hN).mp h1, rfl⟩
theorem nI_sub {a b : Nat} (h : b ≤ a) : nI a - nI b = nI (a - b) := pk_sub h
theorem nI_dn (n : Nat) : nI (n + 1) + Int32.ofInt (-1) = nI n := by
  have := pk_m1 n
  exact this
theorem nI_up (n : Nat) : nI n + Int32.ofInt 1 = nI (n + 1) := nI_1 n
