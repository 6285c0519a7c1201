def tab0n : Nat := 0xfffffc000000001bfffff000000000efffffc000000007bffffe000000003efffff800000001fbffffe00000000fefffff000000007fbffffc00000003feffffe00000001ffbffff80000000ffeffffe00000007ffbffff00000003ffeffffc0000001fffbfffe0000000fffeffff80000007fffbfffe0000003fffeffff0000001ffffbfffc000000ffffeffff0000007ffffbfff8000003ffffefffe000001fffffbfff000000fffffefffc000005fffffbfff0000027ffffefff8000010fffffbffe0000083ffffefff00000407ffffbffc0000200ffffefff00001003ffffbff800008007fffeffe00004000ffffbff800020003fffeffc000100007fffbff000080001fffeff8000400003fffbfe0002000007ffeff8001000001fffbfc0008000003ffeff00040000007ffbfc0020000001ffefe00100000003ffbf80080000000ffefc00400000001ffbf002000000003fefc01000000000ffbe008000000001fef8040000000007fbc020000000000fef0100000000001fbc0800000000007ee0400000000000fb82000000000001ee10000000000007b08000000000000ec40000000000003a200000000000006900000000000000a8000000000000024000000000000003fffffffffffffff
def tab0m : Nat := 0x1fffffc000000000ffffff0000000007fffffc000000003fffffe000000001ffffff800000000ffffffe000000007ffffff000000003ffffffc00000001ffffffe00000000fffffff800000007ffffffe00000003fffffff00000001fffffffc0000000fffffffe00000007fffffff80000003fffffffe0000001ffffffff0000000ffffffffc0000007ffffffff0000003ffffffff8000001ffffffffe000000fffffffff0000007ffffffffc000001fffffffff0000007ffffffff8000000ffffffffe0000003ffffffff00000007fffffffc0000000ffffffff00000003fffffff800000007ffffffe00000000fffffff800000003ffffffc000000007ffffff000000001ffffff8000000003fffffe0000000007fffff8000000001fffffc0000000003fffff00000000007ffffc0000000001ffffe00000000003ffff80000000000ffffc00000000001ffff000000000003fffc00000000000fffe000000000001fff8000000000007ffc000000000000fff0000000000001ffc0000000000007fe0000000000000ff80000000000001fe00000000000007f00000000000000fc00000000000003e000000000000007800000000000000e0000000000000030000000000000004000000000000000
def tab1n : Nat := 0x2000000000000000000000000000000000000000000000100000000000000000000000000000000000000000000008000000000000000000000000000001000000000000000000000000000000000000000000000080000000000000000000000000000010000000000000000000000000000000000000000000000800000000000000000000000000000000000000000000040000000000000000000000000000008000000000000000000002000000000000000000000000400000100000000000000000000000080000008000000000000001000000000000000000000004000000080000000000000010000000000000000000000200000000800000000000000000000040000000040000000000000008000000000000000000002000000000400000000000000080000000000000000000100000000004000000000000000000020000000000200000000000000040000000000000000001000000000002000000000000000000200000000000100000000000000020000000000000000010000000000001000000000000000200000000000000000800000000000010000000000000000100000000000000800000000000000100000000000000008000000000000008000000000000001
def tab1m : Nat := 0x2000000000000000000000000000000000000000000000100000000000000000000000000000000000000000000008000000000000000000000000000001000000000000000000000000000000000000000000000080000000000000000000000000000010000000000000000000000000000000000000000000000800000000000000000000000000000000000000000000040000000000000000000000000000008000000000000000000002000000000000000000000000400000100000000000000000000000080000008000000000000001000000000000000000000004000000080000000000000010000000000000000000000200000000800000000000000000000040000000040000000000000008000000000000000000002000000000400000000000000080000000000000000000100000000004000000000000000000020000000000200000000000000040000000000000000001000000000002000000000000000000200000000000100000000000000020000000000000000010000000000001000000000000000200000000000000000800000000000010000000000000000100000000000000800000000000000100000000000000010000000000000002000000000000002
def tab3n : Nat := 0x1010010000000000010010000100004001004000000000010000010040001001001000000000000010010010000000000001004010040100401004000000000001001010010100101001000000000001004001004100400100400000000001001001001100100100104010000001004010040001004010041000010001001010010001001010010001004001004001004001004001005001001001001001001001001001001
def tab3m : Nat := 0x1010010000000000010010000100004001004000000000010000010040001001001000000000000010010010000000000001004010040100401004000000000001001010010100101001000000000001004001004100400100400000000001001001001100100100104010000001004010040001004010041000010001001010010001001010010001004001004001004001004002003001001001001001001001001000802
def tabN (g : Nat) (mi : Bool) : Nat := match g, mi with
  | 0, false => tab0n
  | 0, true => tab0m
  | 1, false => tab1n
  | 1, true => tab1m
  | 3, false => tab3n
  | 3, true => tab3m
  | _, _ => 0
/-- the lines of a table of LOST places, a bit a place -/
def linN (g : Nat) (mi : Bool) (j : Nat) : Nat := if g = 3 then (tabN g mi >>> (11 * j)) % 2048 else (tabN g mi >>> (61 * j)) % 2305843009213693952
def tbI (g : Nat) (mi : Bool) (j : Nat) : Int64 := lN (linN g mi j)
def lsB (g : Nat) (mi : Bool) (a b : Nat) : Bool := (tabN g mi).testBit (61 * a + b)
def ls3 (mi : Bool) (a b c : Nat) : Bool := (tabN 3 mi).testBit (121 * a + 11 * b + c)
def bitI (X : Int64) (k : Nat) : Bool := decide ((((X : Int64).toUInt64 >>> ((nI k : Int32).toInt64.toUInt64 &&& Int64.toUInt64 63)).toInt64) &&& 1 = 1)
def rcI (X : Int64) (ll : Nat) : Nat → Nat → Bool
  | 0, _ => false
  | d + 1, u => if ll ≤ u then bitI X (u - ll) || rcI X ll d (u - ll) else false
def liF (w : Int64) (sd : Int32) (e : Bool) : Int64 := ((((if e then w ||| 1 else w) ^^^ (-1 : Int64)) &&& (((1 : Int64) <<< ((sd : Int32).toInt64 &&& 63)) - 1)) &&& (-(((if e then w ||| 1 else w) ^^^ (-1 : Int64)) &&& (((1 : Int64) <<< ((sd : Int32).toInt64 &&& 63)) - 1))))
def orA (g : Nat → Int64) : Nat → Int64 → Int64
  | 0, x => x
  | n + 1, x => orA g n x ||| g (n + 1)
theorem orA_cong {g h : Nat → Int64} : ∀ (n : Nat) (x : Int64), (∀ k, 1 ≤ k → k ≤ n → g k = h k) → orA g n x = orA h n x
  | 0, _, _ => rfl
  | n + 1, x, hh => by
    show orA g n x ||| g (n + 1) = orA h n x ||| h (n + 1)
    rw [orA_cong n x (fun k h1 h2 => hh k h1 (by omega)), hh (n + 1) (by omega) (by omega)]
def wbI (f : Nat → Int64) (a b : Nat) : Int64 := orA (fun k => f (11 * a + b - 11 * k - k) <<< ((nI k : Int32).toInt64 &&& 63)) (min a b) (orA (fun k => f (11 * a + b - k)) b (orA (fun k => f (11 * a + b - 11 * k)) a 0))
def bfT (mi : Bool) : Nat → Int64
  | 0 => 0
  | a + 1 => bfT mi a ||| tbI 1 mi a
def bbT (mi : Bool) : Nat → Int64
  | 0 => 0
  | a + 1 => (bbT mi a ||| tbI 1 mi a) <<< ((1 : Int32).toInt64 &&& 63)
def shl (mi : Bool) (a b : Nat) : Int64 := lN (linN 0 mi a % 2 ^ b)
/-- whether the class finds SHARES won at a, b: by the lines as they stand when a, b is gone to -/
def shw (mi : Bool) (a b : Nat) : Bool := if min a b = 0 then mi else rcI (if b < a then tbI 0 mi b else shl mi a b) (min a b) (max a b + 1) (max a b)
def chk2 (p : Nat → Nat → Bool) : Bool := (List.range 61).all (fun a => (List.range 61).all (fun b => p a b))
theorem chk2_at {p : Nat → Nat → Bool} (h : chk2 p = true) {a b : Nat} (ha : a < 61) (hb : b < 61) : p a b = true := by
  unfold chk2 at h
  have h1 := List.all_eq_true.mp h a (List.mem_range.mpr ha)
  exact List.all_eq_true.mp h1 b (List.mem_range.mpr hb)
theorem sh_step_n : chk2 (fun a b => shl false a (b + 1) == (if shw false a b then shl false a b else shl false a b ||| ((1 : Int64) <<< ((nI b : Int32).toInt64 &&& 63)))) = true := by decide +kernel
theorem sh_step_m : chk2 (fun a b => shl true a (b + 1) == (if shw true a b then shl true a b else shl true a b ||| ((1 : Int64) <<< ((nI b : Int32).toInt64 &&& 63)))) = true := by decide +kernel
theorem sh_step (mi : Bool) {a b : Nat} (ha : a < 61) (hb : b < 61) : shl mi a (b + 1) = (if shw mi a b then shl mi a b else shl mi a b ||| ((1 : Int64) <<< ((nI b : Int32).toInt64 &&& 63))) := by
  cases mi
  · exact eq_of_beq (chk2_at sh_step_n ha hb)
  · exact eq_of_beq (chk2_at sh_step_m ha hb)
theorem sh_end : ∀ mi : Bool, ∀ a, a < 61 → shl mi a 61 = tbI 0 mi a := by decide +kernel
theorem sh_beg (mi : Bool) (a : Nat) : shl mi a 0 = 0 := by unfold shl; rw [Nat.pow_zero, Nat.mod_one]; rfl
theorem bo_step : ∀ mi : Bool, ∀ a, a < 61 → liF (bfT mi a ||| bbT mi a) 61 (mi && decide (a = 0)) = tbI 1 mi a := by decide +kernel
theorem th_step : ∀ mi : Bool, ∀ a, a < 11 → ∀ b, b < 11 → liF (wbI (tbI 3 mi) a b) 11 (mi && decide (11 * a + b = 0)) = tbI 3 mi (11 * a + b) := by decide +kernel
/-- one bit counted: as the JDK does -/
def ushI (x : Int64) (k : Int32) : Int64 := (((x : Int64).toUInt64 >>> ((k : Int32).toInt64.toUInt64 &&& Int64.toUInt64 63)).toInt64)
def bcI (i : Int64) : Int32 :=
  let i1 := i - (ushI i 1 &&& 6148914691236517205)
  let i2 := (i1 &&& 3689348814741910323) + (ushI i1 2 &&& 3689348814741910323)
  let i3 := (i2 + ushI i2 4) &&& 1085102592571150095
  let i4 := i3 + ushI i3 8
  let i5 := i4 + ushI i4 16
  let i6 := i5 + ushI i5 32
  i6.toInt32 &&& 127
def mskI (m : Nat) : Int64 := ((1 : Int64) <<< ((nI m + 1 : Int32).toInt64 &&& 63)) - 1
def cu2 (g : Nat) (mi : Bool) (m : Nat) : Nat → Int32
  | 0 => 0
  | j + 1 => if j ≤ m then cu2 g mi m j + bcI (tbI g mi j &&& mskI m) else cu2 g mi m j
def cu3 (mi : Bool) (m : Nat) : Nat → Int32
  | 0 => 0
  | j + 1 => if j / 11 ≤ m ∧ j % 11 ≤ m then cu3 mi m j + bcI (tbI 3 mi j &&& mskI m) else cu3 mi m j
/-- a table of two heaps, of three -/
def tab2 (cA : Nat → ClassId) (M : mp) (g : Nat) (mi : Bool) (lt : Nat) : Prop := ∃ (la : Nat) (f : Nat → Int64), M lt = some (.inr (3, [.int 0, .ref la])) ∧ M la = some (.inl (cA 0, 61, .inr (.inl f))) ∧ ∀ j, j < 61 → f j = tbI g mi j
def tab3 (cA : Nat → ClassId) (M : mp) (mi : Bool) (lt : Nat) : Prop := ∃ (la : Nat) (f : Nat → Int64), M lt = some (.inr (3, [.int 1, .ref la])) ∧ M la = some (.inl (cA 0, 121, .inr (.inl f))) ∧ ∀ j, j < 121 → f j = tbI 3 mi j
theorem tab2.kp {cA : Nat → ClassId} {M M' : mp} {g : Nat} {mi : Bool} {lt : Nat} (h : tab2 cA M g mi lt) (hk : kpI M M') : tab2 cA M' g mi lt := by
  obtain ⟨la, f, h1, h2, h3⟩ := h
  exact ⟨la, f, hk _ _ h1 ⟨by decide, by decide⟩, hk _ _ h2 (Or.inr (Or.inl rfl)), h3⟩
theorem tab3.kp {cA : Nat → ClassId} {M M' : mp} {mi : Bool} {lt : Nat} (h : tab3 cA M mi lt) (hk : kpI M M') : tab3 cA M' mi lt := by
  obtain ⟨la, f, h1, h2, h3⟩ := h
  exact ⟨la, f, hk _ _ h1 ⟨by decide, by decide⟩, hk _ _ h2 (Or.inr (Or.inr rfl)), h3⟩
def bN (b : Bool) : Nat := if b then 1 else 0
def tmW (cA : Nat → ClassId) (M : mp) (TM : Nat) : Prop := ∃ ft : Nat → Option Nat, M TM = some (.inl (cA 4, 8, .inr (.inr (.inr (.inr ft))))) ∧ (∀ g mi a, g ≤ 1 → ft (2 * g + bN mi) = some a → tab2 cA M g mi a) ∧ (∀ mi a, ft (6 + bN mi) = some a → tab3 cA M mi a)
theorem tmW.kp {cA : Nat → ClassId} {M M' : mp} {TM : Nat} (h : tmW cA M TM) (hk : kpI M M') (hs : ∀ e, M TM = some e → M' TM = some e) : tmW cA M' TM := by
  obtain ⟨ft, h1, h2, h3⟩ := h
  exact ⟨ft, hs _ h1, fun g mi a q w => (h2 g mi a q w).kp hk, fun mi a w => (h3 mi a w).kp hk⟩
