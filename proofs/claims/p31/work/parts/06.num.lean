def zI (z : Int) : Int32 := Int32.ofInt z
def zL (z : Int) : Int64 := Int64.ofInt z
abbrev zR (z : Int) : Prop := -2147483648 ≤ z ∧ z ≤ 2147483647
abbrev zQ (z : Int) : Prop := -9223372036854775808 ≤ z ∧ z ≤ 9223372036854775807
theorem zI_toInt {z : Int} (h : zR z) : (zI z).toInt = z := Int32.toInt_ofInt_of_le (by omega) (by omega)
theorem zL_toInt {z : Int} (h : zQ z) : (zL z).toInt = z := Int64.toInt_ofInt_of_le (by omega) (by omega)
theorem zI_self (x : Int32) : zI x.toInt = x := Int32.ofInt_toInt x
theorem zL_self (x : Int64) : zL x.toInt = x := Int64.ofInt_toInt x
theorem zR_self (x : Int32) : zR x.toInt := ⟨Int32.le_toInt x, by have := Int32.toInt_lt x; omega⟩
theorem zQ_self (x : Int64) : zQ x.toInt := ⟨Int64.le_toInt x, by have := Int64.toInt_lt x; omega⟩
theorem zI_add (a b : Int) : zI a + zI b = zI (a + b) := (Int32.ofInt_add a b).symm
theorem zI_sub (a b : Int) : zI a - zI b = zI (a - b) := (Int32.ofInt_sub a b).symm
theorem zI_mul (a b : Int) : zI a * zI b = zI (a * b) := (Int32.ofInt_mul a b).symm
theorem zI_neg (a : Int) : - zI a = zI (-a) := (Int32.ofInt_neg a).symm
theorem zL_add (a b : Int) : zL a + zL b = zL (a + b) := (Int64.ofInt_add a b).symm
theorem zL_sub (a b : Int) : zL a - zL b = zL (a - b) := (Int64.ofInt_sub a b).symm
theorem zL_mul (a b : Int) : zL a * zL b = zL (a * b) := (Int64.ofInt_mul a b).symm
theorem zL_neg (a : Int) : - zL a = zL (-a) := (Int64.ofInt_neg a).symm
theorem zI_eq {a b : Int} (ha : zR a) (hb : zR b) : zI a = zI b ↔ a = b := by
  constructor
  · intro h
    have := congrArg Int32.toInt h
    rwa [zI_toInt ha, zI_toInt hb] at this
  · intro h; rw [h]
theorem zI_lt {a b : Int} (ha : zR a) (hb : zR b) : zI a < zI b ↔ a < b := by
  rw [Int32.lt_iff_toInt_lt, zI_toInt ha, zI_toInt hb]
theorem zI_le {a b : Int} (ha : zR a) (hb : zR b) : zI a ≤ zI b ↔ a ≤ b := by
  rw [Int32.le_iff_toInt_le, zI_toInt ha, zI_toInt hb]
theorem zL_eq {a b : Int} (ha : zQ a) (hb : zQ b) : zL a = zL b ↔ a = b := by
  constructor
  · intro h
    have := congrArg Int64.toInt h
    rwa [zL_toInt ha, zL_toInt hb] at this
  · intro h; rw [h]
theorem zL_lt {a b : Int} (ha : zQ a) (hb : zQ b) : zL a < zL b ↔ a < b := by
  rw [Int64.lt_iff_toInt_lt, zL_toInt ha, zL_toInt hb]
theorem zL_le {a b : Int} (ha : zQ a) (hb : zQ b) : zL a ≤ zL b ↔ a ≤ b := by
  rw [Int64.le_iff_toInt_le, zL_toInt ha, zL_toInt hb]
theorem zI_0 : (0 : Int32) = zI 0 := rfl
theorem zI_div {a b : Int} (ha : zR a) (hb : zR b) (h0 : 0 ≤ a) (h1 : 0 < b) : zI a / zI b = zI (a / b) := by
  apply Int32.toInt_inj.mp
  have hq : zR (a / b) := by
    have h2 := Int.ediv_nonneg h0 (Int.le_of_lt h1)
    have h3 := Int.ediv_le_self b h0
    unfold zR at *; omega
  rw [Int32.toInt_div_of_ne_right, zI_toInt ha, zI_toInt hb, zI_toInt hq, Int.tdiv_eq_ediv_of_nonneg h0]
  · intro h
    have := congrArg Int32.toInt h
    rw [zI_toInt hb] at this
    have h9 : ((-1 : Int32)).toInt = -1 := rfl
    omega
theorem zI_rem {a b : Int} (ha : zR a) (hb : zR b) (h0 : 0 ≤ a) (h1 : 0 < b) : zI a - zI a / zI b * zI b = zI (a % b) := by
  rw [zI_div ha hb h0 h1, zI_mul, zI_sub]
  congr 1
  rw [Int.emod_def, Int.mul_comm]
theorem zI_in {i : Int} {n : Nat} (hn : (n : Int) ≤ 2147483647) (h0 : 0 ≤ i) (h1 : i < n) : vp_in (zI i) n := by
  rw [vp_in_iff, zI_toInt (by unfold zR; omega)]
  exact ⟨h0, h1⟩
theorem zI_clamp {i : Int} (h0 : 0 ≤ i) (h1 : i ≤ 2147483647) : (zI i).toNatClampNeg = i.toNat := by
  rw [Int32.toNatClampNeg, zI_toInt (by unfold zR; omega)]
theorem zI_nonneg {i : Int} (h : zR i) (h0 : 0 ≤ i) : ¬ zI i < 0 := by
  rw [zI_0, zI_lt h (by unfold zR; omega)]; omega
theorem zI_char {c : Int} (h0 : 0 ≤ c) (h1 : c < 65536) : ((zI c).toUInt32 % 65536).toInt32 = zI c := by
  have hx : zI c = nI c.toNat := by
    unfold zI nI
    rw [← Int32.ofInt_eq_ofNat, Int.toNat_of_nonneg h0]
  rw [hx, pk_char, pk_tn (by omega)]
  rw [Nat.mod_eq_of_lt (by omega)]
theorem zI_nI {c : Int} (h0 : 0 ≤ c) : zI c = nI c.toNat := by
    unfold zI nI
    rw [← Int32.ofInt_eq_ofNat, Int.toNat_of_nonneg h0]
theorem zL_lN {c : Int} (h0 : 0 ≤ c) : zL c = lN c.toNat := by
    unfold zL lN
    rw [← Int64.ofInt_eq_ofNat, Int.toNat_of_nonneg h0]
theorem zI_toL {a : Int} (h : zR a) : (zI a).toInt64 = zL a := by
  apply Int64.toInt_inj.mp
  rw [Int32.toInt_toInt64, zI_toInt h, zL_toInt (by unfold zR zQ at *; omega)]
theorem zL_toI {a : Int} (h : zR a) : (zL a).toInt32 = zI a := by
  rw [← zI_toL h, Int32.toInt32_toInt64]
theorem zI_lit (n : Int) : Int32.ofInt n = zI n := rfl
theorem zI_b8 {n : Int} (h : -128 ≤ n ∧ n ≤ 127) : (Int8.ofInt n).toInt32 = zI n := by
  apply Int32.toInt_inj.mp
  rw [Int8.toInt_toInt32, zI_toInt (by unfold zR; omega), Int8.toInt_ofInt_of_le (by omega) (by omega)]
theorem zI_b16 {n : Int} (h : -32768 ≤ n ∧ n ≤ 32767) : (Int16.ofInt n).toInt32 = zI n := by
  apply Int32.toInt_inj.mp
  rw [Int16.toInt_toInt32, zI_toInt (by unfold zR; omega), Int16.toInt_ofInt_of_le (by omega) (by omega)]
theorem zI_toChar (x : Int32) : ∃ c : Int, 0 ≤ c ∧ c < 65536 ∧ (x.toUInt32 % 65536).toInt32 = zI c ∧ c = x.toInt % 65536 := by
  refine ⟨x.toInt % 65536, by omega, by omega, ?_, rfl⟩
  rw [pk_char, zI_nI (by omega)]
  congr 1
  have h1 : (x.toBitVec.toNat : Int) % 65536 = x.toInt % 65536 := by
    rw [← Int32.toInt_toBitVec, BitVec.toInt_eq_toNat_bmod, Int.bmod_def]
    split <;> omega
  omega
