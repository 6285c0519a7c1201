def lpA (f : Nat → Bool) (y : Nat) : Nat → Nat → Bool
  | 0, _ => false
  | d + 1, u => if y ≤ u then f (u - y) || lpA f y d (u - y) else false
def anB (p : Nat → Bool) : Nat → Bool
  | 0 => false
  | n + 1 => anB p n || p (n + 1)
def gsT (mi : Bool) (x y : Nat) : Bool := lpA (fun k => lsB 0 mi k y) y (x + 1) x || lpA (fun k => lsB 0 mi x k) x (y + 1) y
def stB (mi : Bool) (x y k : Nat) : Bool := (decide (k ≤ x) && lsB 1 mi (x - k) y) || ((decide (k ≤ y) && lsB 1 mi x (y - k)) || (decide (k ≤ x) && (decide (k ≤ y) && lsB 1 mi (x - k) (y - k))))
theorem gs_n : chk2 (fun x y => (if x = 0 ∨ y = 0 then false else gsT false x y) == !lsB 0 false x y) = true := by decide +kernel
theorem gs_m : chk2 (fun x y => (if x = 0 ∨ y = 0 then true else gsT true x y) == !lsB 0 true x y) = true := by decide +kernel
theorem gs_ok {mi : Bool} {x y : Nat} (hx : x ≤ 60) (hy : y ≤ 60) : (if x = 0 ∨ y = 0 then mi else gsT mi x y) = !lsB 0 mi x y := by
  cases mi
  · exact eq_of_beq (chk2_at gs_n (by omega) (by omega))
  · exact eq_of_beq (chk2_at gs_m (by omega) (by omega))
theorem gb_n : chk2 (fun x y => (if x = 0 ∧ y = 0 then false else anB (stB false x y) 60) == !lsB 1 false x y) = true := by decide +kernel
theorem gb_m : chk2 (fun x y => (if x = 0 ∧ y = 0 then true else anB (stB true x y) 60) == !lsB 1 true x y) = true := by decide +kernel
theorem gb_ok {mi : Bool} {x y : Nat} (hx : x ≤ 60) (hy : y ≤ 60) : (if x = 0 ∧ y = 0 then mi else anB (stB mi x y) 60) = !lsB 1 mi x y := by
  cases mi
  · exact eq_of_beq (chk2_at gb_n (by omega) (by omega))
  · exact eq_of_beq (chk2_at gb_m (by omega) (by omega))
/-- the part pt of the reference's table stands as far as x, y -/
def upTo (g : Nat) (mi : Bool) (pt x y : Nat) (fw : Nat → Int32) : Prop := ∀ x' y', x' ≤ 60 → y' ≤ 60 → (x' < x ∨ (x' = x ∧ y' < y)) → fw (3721 * pt + 61 * x' + y') = bI (!lsB g mi x' y')
theorem bI_n0 {b : Bool} (h : bI (!b) = 0) : b = true := by cases b; exact absurd h (by decide); rfl
theorem bI_nn0 {b : Bool} (h : ¬ bI (!b) = 0) : b = false := by cases b; rfl; exact absurd rfl h
/-- the reference's tables of two heaps: what is marked over stands -/
def t2W (fw fo : Nat → Int32) : Prop := ∀ (g : Nat) (mi : Bool), g ≤ 1 → ¬ fo (2 * g + bN mi) = 0 → ∀ a b, a ≤ 60 → b ≤ 60 → fw (3721 * (2 * g + bN mi) + 61 * a + b) = bI (!lsB g mi a b)
theorem upTo.nxt {g : Nat} {mi : Bool} {pt x y : Nat} {f : Nat → Int32} (h : upTo g mi pt x y f) (hx : x ≤ 60) (hy : y ≤ 60) (_ : bN mi ≤ 1) : upTo g mi pt x (y + 1) (upd f (3721 * pt + 61 * x + y) (bI (!lsB g mi x y))) := by
  intro x' y' hx' hy' hor
  by_cases e : x' = x ∧ y' = y
  · rw [e.1, e.2, pk_us]
  · rw [pk_un (by omega)]
    exact h x' y' hx' hy' (by omega)
theorem upTo.row {g : Nat} {mi : Bool} {pt x y : Nat} {f : Nat → Int32} (h : upTo g mi pt x y f) (hy : 60 < y) : upTo g mi pt (x + 1) 0 f := fun x' y' hx' hy' hor => h x' y' hx' hy' (by omega)
theorem t2W.done {fw fo f : Nat → Int32} (h : t2W fw fo) {g : Nat} {mi : Bool} (hg : g ≤ 1) (hn : ∀ a b, a ≤ 60 → b ≤ 60 → f (3721 * (2 * g + bN mi) + 61 * a + b) = bI (!lsB g mi a b)) (ho : ∀ i, i < 3721 * (2 * g + bN mi) ∨ 3721 * (2 * g + bN mi) + 3721 ≤ i → f i = fw i) : t2W f (upd fo (2 * g + bN mi) 1) := by
  intro g1 m1 hg1 hz a b ha hb
  have b1 : bN mi ≤ 1 := by cases mi <;> decide
  have b2 : bN m1 ≤ 1 := by cases m1 <;> decide
  by_cases e : 2 * g1 + bN m1 = 2 * g + bN mi
  · have e1 : g1 = g := by omega
    have e2 : m1 = mi := bN_inj (by omega)
    subst e1; subst e2
    exact hn a b ha hb
  · rw [pk_un e] at hz
    rw [ho _ (by omega)]
    exact h g1 m1 hg1 hz a b ha hb
