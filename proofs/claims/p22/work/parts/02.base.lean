/-! VALUES: a pair (kind, integer): kind 0 int, 1 long, 2 reference (-1 null) -/
abbrev bV : Type := Nat × Int
def w32 (x : Int) : Int := Int.bmod x 4294967296
def w64 (x : Int) : Int := Int.bmod x 18446744073709551616
def in32 (x : Int) : Prop := -2147483648 ≤ x ∧ x ≤ 2147483647
def in64 (x : Int) : Prop := -9223372036854775808 ≤ x ∧ x ≤ 9223372036854775807
theorem w32_in (x : Int) : in32 (w32 x) := by
  unfold in32 w32
  have h1 := Int.le_bmod (x := x) (m := 4294967296) (by decide)
  have h2 := Int.bmod_lt (x := x) (m := 4294967296) (by decide)
  omega
theorem w64_in (x : Int) : in64 (w64 x) := by
  unfold in64 w64
  have h1 := Int.le_bmod (x := x) (m := 18446744073709551616) (by decide)
  have h2 := Int.bmod_lt (x := x) (m := 18446744073709551616) (by decide)
  omega
theorem w32_id {x : Int} (h : in32 x) : w32 x = x := by
  unfold in32 at h; unfold w32
  exact Int.bmod_eq_of_le (by omega) (by omega)
theorem w64_id {x : Int} (h : in64 x) : w64 x = x := by
  unfold in64 at h; unfold w64
  exact Int.bmod_eq_of_le (by omega) (by omega)
theorem i32_in (x : Int32) : in32 x.toInt := by
  have h1 := Int32.le_toInt x; have h2 := Int32.toInt_lt x
  unfold in32; omega
theorem i64_in (x : Int64) : in64 x.toInt := by
  have h1 := Int64.le_toInt x; have h2 := Int64.toInt_lt x
  unfold in64; omega
theorem i32_to (x : Int) : (Int32.ofInt x).toInt = w32 x := by
  rw [Int32.toInt_ofInt]; rfl
theorem i64_to (x : Int) : (Int64.ofInt x).toInt = w64 x := by
  rw [Int64.toInt_ofInt]; rfl
theorem i32_ti {x : Int} (h : in32 x) : (Int32.ofInt x).toInt = x := by rw [i32_to, w32_id h]
theorem i64_ti {x : Int} (h : in64 x) : (Int64.ofInt x).toInt = x := by rw [i64_to, w64_id h]
theorem i32_of (x : Int32) : Int32.ofInt x.toInt = x := Int32.ofInt_toInt x
theorem i64_of (x : Int64) : Int64.ofInt x.toInt = x := Int64.ofInt_toInt x
theorem i32_w (x : Int) : Int32.ofInt (w32 x) = Int32.ofInt x := by
  rw [← i32_to, i32_of]
theorem i64_w (x : Int) : Int64.ofInt (w64 x) = Int64.ofInt x := by
  rw [← i64_to, i64_of]
theorem i32_add (x y : Int) : Int32.ofInt x + Int32.ofInt y = Int32.ofInt (w32 (x + y)) := by
  rw [i32_w, Int32.ofInt_add]
theorem i32_sub (x y : Int) : Int32.ofInt x - Int32.ofInt y = Int32.ofInt (w32 (x - y)) := by
  rw [i32_w, Int32.ofInt_sub]
theorem i32_mul (x y : Int) : Int32.ofInt x * Int32.ofInt y = Int32.ofInt (w32 (x * y)) := by
  rw [i32_w, Int32.ofInt_mul]
theorem i32_neg (x : Int) : -Int32.ofInt x = Int32.ofInt (w32 (-x)) := by
  rw [i32_w, Int32.ofInt_neg]
theorem i64_add (x y : Int) : Int64.ofInt x + Int64.ofInt y = Int64.ofInt (w64 (x + y)) := by
  rw [i64_w, Int64.ofInt_add]
theorem i64_sub (x y : Int) : Int64.ofInt x - Int64.ofInt y = Int64.ofInt (w64 (x - y)) := by
  rw [i64_w, Int64.ofInt_sub]
theorem i64_mul (x y : Int) : Int64.ofInt x * Int64.ofInt y = Int64.ofInt (w64 (x * y)) := by
  rw [i64_w, Int64.ofInt_mul]
theorem i32_div {x y : Int} (hx : in32 x) (hy : in32 y) : Int32.ofInt x / Int32.ofInt y = Int32.ofInt (w32 (x.tdiv y)) := by
  rw [← i32_of (Int32.ofInt x / Int32.ofInt y), Int32.toInt_div, i32_ti hx, i32_ti hy]; rfl
theorem i64_div {x y : Int} (hx : in64 x) (hy : in64 y) : Int64.ofInt x / Int64.ofInt y = Int64.ofInt (w64 (x.tdiv y)) := by
  rw [← i64_of (Int64.ofInt x / Int64.ofInt y), Int64.toInt_div, i64_ti hx, i64_ti hy]; rfl
theorem i32_rem {x y : Int} (hx : in32 x) (hy : in32 y) : Int32.ofInt x - Int32.ofInt x / Int32.ofInt y * Int32.ofInt y = Int32.ofInt (x.tmod y) := by
  rw [← i32_of (Int32.ofInt x - Int32.ofInt x / Int32.ofInt y * Int32.ofInt y), rem_toInt, i32_ti hx, i32_ti hy]
theorem i32_0 {y : Int} (hy : in32 y) (h : y ≠ 0) : ¬ Int32.ofInt y = 0 := by
  intro q
  have : (Int32.ofInt y).toInt = (0 : Int32).toInt := by rw [q]
  rw [i32_ti hy] at this
  exact h this
theorem i64_0 {y : Int} (hy : in64 y) (h : y ≠ 0) : ¬ Int64.ofInt y = 0 := by
  intro q
  have : (Int64.ofInt y).toInt = (0 : Int64).toInt := by rw [q]
  rw [i64_ti hy] at this
  exact h this
theorem i32_le {x y : Int} (hx : in32 x) (hy : in32 y) : Int32.ofInt x ≤ Int32.ofInt y ↔ x ≤ y := by
  rw [Int32.le_iff_toInt_le, i32_ti hx, i32_ti hy]
theorem i32_lt {x y : Int} (hx : in32 x) (hy : in32 y) : Int32.ofInt x < Int32.ofInt y ↔ x < y := by
  rw [Int32.lt_iff_toInt_lt, i32_ti hx, i32_ti hy]
theorem i32_eq {x y : Int} (hx : in32 x) (hy : in32 y) : Int32.ofInt x = Int32.ofInt y ↔ x = y := by
  rw [← Int32.toInt_inj, i32_ti hx, i32_ti hy]
theorem i64_lt {x y : Int} (hx : in64 x) (hy : in64 y) : Int64.ofInt x < Int64.ofInt y ↔ x < y := by
  rw [Int64.lt_iff_toInt_lt, i64_ti hx, i64_ti hy]
theorem i64_eq {x y : Int} (hx : in64 x) (hy : in64 y) : Int64.ofInt x = Int64.ofInt y ↔ x = y := by
  rw [← Int64.toInt_inj, i64_ti hx, i64_ti hy]
theorem i32_cl {x : Int} (hx : in32 x) : (Int32.ofInt x).toNatClampNeg = x.toNat := by
  rw [← Int32.toNat_toInt, i32_ti hx]
/-- of an index -/
theorem i32_ix {x : Int} {n : Nat} (hx : in32 x) (h0 : 0 ≤ x) (hn : x.toNat < n) : ¬ (Int32.ofInt x < 0 ∨ n ≤ (Int32.ofInt x).toNatClampNeg) := by
  rw [i32_cl hx]
  rintro (h | h)
  · rw [show (0 : Int32) = Int32.ofInt 0 from rfl, i32_lt hx ⟨by decide, by decide⟩] at h
    omega
  · omega
def andI (x y : Int) : Int := (Int32.ofInt x &&& Int32.ofInt y).toInt
def orI (x y : Int) : Int := (Int32.ofInt x ||| Int32.ofInt y).toInt
def xorI (x y : Int) : Int := (Int32.ofInt x ^^^ Int32.ofInt y).toInt
def shlI (x y : Int) : Int := (Int32.ofInt x <<< (Int32.ofInt y &&& 31)).toInt
def shrI (x y : Int) : Int := (Int32.ofInt x >>> (Int32.ofInt y &&& 31)).toInt
def ushrI (x y : Int) : Int := ((Int32.ofInt x).toUInt32 >>> ((Int32.ofInt y).toUInt32 &&& Int32.toUInt32 31)).toInt32.toInt
def andL (x y : Int) : Int := (Int64.ofInt x &&& Int64.ofInt y).toInt
def orL (x y : Int) : Int := (Int64.ofInt x ||| Int64.ofInt y).toInt
def shlL (x y : Int) : Int := (Int64.ofInt x <<< ((Int32.ofInt y).toInt64 &&& 63)).toInt
def shrL (x y : Int) : Int := (Int64.ofInt x >>> ((Int32.ofInt y).toInt64 &&& 63)).toInt
theorem i32_i2l (x : Int) (hx : in32 x) : (Int32.ofInt x).toInt64 = Int64.ofInt x := by
  rw [← i64_of (Int32.ofInt x).toInt64, Int32.toInt_toInt64, i32_ti hx]
theorem i64_l2i (x : Int) (hx : in64 x) : (Int64.ofInt x).toInt32 = Int32.ofInt (w32 x) := by
  rw [← i32_of (Int64.ofInt x).toInt32, Int64.toInt_toInt32, i64_ti hx]; rfl
theorem i32_i2b (x : Int) (hx : in32 x) : (Int32.ofInt x).toInt8.toInt32 = Int32.ofInt (x.bmod 256) := by
  rw [← i32_of (Int32.ofInt x).toInt8.toInt32, Int8.toInt_toInt32, Int32.toInt_toInt8, i32_ti hx]
theorem i32_i2s (x : Int) (hx : in32 x) : (Int32.ofInt x).toInt16.toInt32 = Int32.ofInt (x.bmod 65536) := by
  rw [← i32_of (Int32.ofInt x).toInt16.toInt32, Int16.toInt_toInt32, Int32.toInt_toInt16, i32_ti hx]
theorem i8_c (x : Int) : (Int8.ofInt x).toInt32 = Int32.ofInt (x.bmod 256) := by
  rw [← i32_of (Int8.ofInt x).toInt32, Int8.toInt_toInt32, Int8.toInt_ofInt]
theorem i16_c (x : Int) : (Int16.ofInt x).toInt32 = Int32.ofInt (x.bmod 65536) := by
  rw [← i32_of (Int16.ofInt x).toInt32, Int16.toInt_toInt32, Int16.toInt_ofInt]
def cmpL (x y : Int) : Int := if y < x then 1 else if x = y then 0 else -1
theorem i64_cmp {x y : Int} (hx : in64 x) (hy : in64 y) : lg_cmp (Int64.ofInt x) (Int64.ofInt y) = Int32.ofInt (cmpL x y) := by
  unfold lg_cmp cmpL
  simp only [GT.gt, i64_lt hy hx, i64_eq hx hy]
  split
  · rfl
  · split <;> rfl
