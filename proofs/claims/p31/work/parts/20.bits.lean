/-! ===== lN n to 2^64: shifts, and, or, masks, one bit ===== -/
theorem wb_tb (n : Nat) : (lN n).toBitVec = BitVec.ofNat 64 n := rfl
theorem wb_inj {a b : Int64} (h : a.toBitVec = b.toBitVec) : a = b := Int64.toBitVec_inj.mp h
theorem wb_tn {n : Nat} (h : n < 2 ^ 64) : (lN n).toBitVec.toNat = n := by rw [wb_tb, BitVec.toNat_ofNat, Nat.mod_eq_of_lt h]
theorem wb_of (x : Int64) : ∃ n, n < 2 ^ 64 ∧ x = lN n := ⟨x.toBitVec.toNat, x.toBitVec.isLt, wb_inj (by rw [wb_tb]; simp)⟩
theorem wb_of32 (x : Int32) : ∃ n, n < 2 ^ 32 ∧ x = nI n := ⟨x.toBitVec.toNat, x.toBitVec.isLt, Int32.toBitVec_inj.mp (by show _ = BitVec.ofNat 32 _; simp)⟩
theorem wb_c : ∀ k, k < 64 → ((nI k).toInt64 &&& 63) = lN k := by decide +kernel
theorem wb_cu : ∀ k, k < 64 → ((nI k).toInt64.toUInt64 &&& Int64.toUInt64 63) = UInt64.ofNat k := by decide +kernel
theorem wb_sm : ∀ k, k < 64 → (BitVec.ofNat 64 k).smod 64 = BitVec.ofNat 64 k := by decide +kernel
theorem wb_pw {a b : Nat} (h : a ≤ b) : 2 ^ b = 2 ^ a * 2 ^ (b - a) := by rw [← Nat.pow_add]; congr 1; omega
theorem wb_lt2 {a b : Nat} (h : a < b) : 2 ^ a < 2 ^ b := Nat.pow_lt_pow_right (by decide) h
theorem wb_mod (n : Nat) : lN n = lN (n % 2 ^ 64) := wb_inj (by rw [wb_tb, wb_tb]; apply BitVec.eq_of_toNat_eq; rw [BitVec.toNat_ofNat, BitVec.toNat_ofNat, Nat.mod_mod])
theorem wb_shr {n k : Nat} (hn : n < 2 ^ 64) (hk : k < 64) : ((lN n).toUInt64 >>> ((nI k).toInt64.toUInt64 &&& Int64.toUInt64 63)).toInt64 = lN (n / 2 ^ k) := by
  rw [wb_cu k hk]
  apply wb_inj
  apply BitVec.eq_of_toNat_eq
  show ((lN n).toUInt64 >>> UInt64.ofNat k).toNat = (BitVec.ofNat 64 _).toNat
  have h1 : (UInt64.ofNat k).toNat = k := by
    show (BitVec.ofNat 64 k).toNat = k
    rw [BitVec.toNat_ofNat, Nat.mod_eq_of_lt (by omega)]
  have h2 : (lN n).toUInt64.toNat = n := wb_tn hn
  rw [UInt64.toNat_shiftRight, h1, h2, Nat.mod_eq_of_lt hk, Nat.shiftRight_eq_div_pow, BitVec.toNat_ofNat, Nat.mod_eq_of_lt (Nat.lt_of_le_of_lt (Nat.div_le_self _ _) hn)]
theorem wb_shl (n : Nat) {k : Nat} (hk : k < 64) : lN n <<< ((nI k).toInt64 &&& 63) = lN (n * 2 ^ k) := by
  rw [wb_c k hk]
  apply wb_inj
  rw [Int64.toBitVec_shiftLeft, wb_tb, wb_tb, wb_tb, wb_sm k hk]
  apply BitVec.eq_of_toNat_eq
  rw [BitVec.shiftLeft_eq', BitVec.toNat_shiftLeft, BitVec.toNat_ofNat, BitVec.toNat_ofNat, BitVec.toNat_ofNat, Nat.mod_eq_of_lt (show k < 2 ^ 64 by omega), Nat.shiftLeft_eq, Nat.mul_mod, Nat.mod_mod, ← Nat.mul_mod]
theorem wb_and {a b : Nat} (ha : a < 2 ^ 64) (hb : b < 2 ^ 64) : lN a &&& lN b = lN (a &&& b) := by
  apply wb_inj
  rw [Int64.toBitVec_and, wb_tb, wb_tb, wb_tb]
  apply BitVec.eq_of_toNat_eq
  rw [BitVec.toNat_and, BitVec.toNat_ofNat, BitVec.toNat_ofNat, BitVec.toNat_ofNat, Nat.mod_eq_of_lt ha, Nat.mod_eq_of_lt hb, Nat.mod_eq_of_lt (Nat.and_lt_two_pow _ hb)]
theorem wb_or {a b : Nat} (ha : a < 2 ^ 64) (hb : b < 2 ^ 64) : lN a ||| lN b = lN (a ||| b) := by
  apply wb_inj
  rw [Int64.toBitVec_or, wb_tb, wb_tb, wb_tb]
  apply BitVec.eq_of_toNat_eq
  rw [BitVec.toNat_or, BitVec.toNat_ofNat, BitVec.toNat_ofNat, BitVec.toNat_ofNat, Nat.mod_eq_of_lt ha, Nat.mod_eq_of_lt hb, Nat.mod_eq_of_lt (Nat.or_lt_two_pow ha hb)]
theorem wb_mask {n k : Nat} (hn : n < 2 ^ 64) (hk : k < 64) : lN n &&& lN (2 ^ k - 1) = lN (n % 2 ^ k) := by
  rw [wb_and hn (by have := wb_lt2 hk; omega), Nat.and_two_pow_sub_one_eq_mod]
theorem wb_a1 {n : Nat} (hn : n < 2 ^ 64) : lN n &&& 1 = lN (n % 2) := wb_mask (k := 1) hn (by decide)
theorem wb_bit {n k : Nat} (hn : n < 2 ^ 64) (hk : k < 64) : ((lN n).toUInt64 >>> ((nI k).toInt64.toUInt64 &&& Int64.toUInt64 63)).toInt64 &&& 1 = lN (n / 2 ^ k % 2) := by
  rw [wb_shr hn hk, wb_a1 (Nat.lt_of_le_of_lt (Nat.div_le_self _ _) hn)]
theorem wb_xor {q k : Nat} (hk : k < 63) (h : 2 ^ k ≤ q) (h2 : q < 2 ^ (k + 1)) : lN q ^^^ lN (2 ^ k) = lN (q - 2 ^ k) := by
  obtain ⟨r, rfl⟩ : ∃ r, q = 2 ^ k + r := ⟨q - 2 ^ k, by omega⟩
  have hr : r < 2 ^ k := by rw [Nat.pow_succ] at h2; omega
  have hx : (2 ^ k + r) ^^^ 2 ^ k = r := by
    apply Nat.eq_of_testBit_eq
    intro i
    rw [Nat.testBit_xor, Nat.testBit_two_pow]
    rcases Nat.lt_trichotomy i k with h | h | h
    · rw [Nat.testBit_two_pow_add_gt h]
      simp [show ¬ k = i by omega]
    · subst h
      rw [Nat.testBit_two_pow_add_eq]
      simp
    · have a1 : 2 ^ (k + 1) ≤ 2 ^ i := Nat.pow_le_pow_right (by decide) h
      rw [Nat.testBit_lt_two_pow (show 2 ^ k + r < 2 ^ i by omega), Nat.testBit_lt_two_pow (show r < 2 ^ i by omega)]
      simp [show ¬ k = i by omega]
  have b1 := wb_lt2 (show k + 1 < 64 by omega)
  have b2 := wb_lt2 (show k < 64 by omega)
  apply wb_inj
  rw [Int64.toBitVec_xor, wb_tb, wb_tb, wb_tb]
  apply BitVec.eq_of_toNat_eq
  rw [BitVec.toNat_xor, BitVec.toNat_ofNat, BitVec.toNat_ofNat, BitVec.toNat_ofNat, Nat.mod_eq_of_lt (by omega : 2 ^ k + r < 2 ^ 64), Nat.mod_eq_of_lt b2, hx, Nat.add_sub_cancel_left, Nat.mod_eq_of_lt (by omega)]
/-! ===== lN: masks, 'or' of parts that don't overlap is a sum ===== -/
theorem u_tn {n : Nat} (h : n < 2 ^ 64) : (UInt64.ofNat n).toNat = n := Nat.mod_eq_of_lt h
theorem g_and {a b c : Nat} (ha : a < 2 ^ 64) (hb : b < 2 ^ 64) (hc : a &&& b = c) : lN a &&& lN b = lN c := by
  subst hc
  have h : UInt64.ofNat a &&& UInt64.ofNat b = UInt64.ofNat (a &&& b) := UInt64.toNat_inj.mp (by rw [UInt64.toNat_and, u_tn ha, u_tn hb, u_tn (Nat.and_lt_two_pow a hb)])
  have h2 := congrArg UInt64.toInt64 h
  exact h2
theorem g_and1 {a : Nat} (ha : a < 2 ^ 64) : lN a &&& 1 = lN (a % 2) := g_and (b := 1) ha (by decide) (Nat.and_two_pow_sub_one_eq_mod a 1)
theorem g_mask {a s p : Nat} (hp : 2 ^ s = p) (hs : s < 64) (ha : a < 2 ^ 64) : lN a &&& lN (p - 1) = lN (a % p) := by
  subst hp
  have := Nat.pow_lt_pow_right (show 1 < 2 by decide) hs
  exact g_and ha (by omega) (Nat.and_two_pow_sub_one_eq_mod a s)
theorem g_or {k p a b : Nat} (hp : 2 ^ k = p) (ha : a < p) (h : b * p + a < 2 ^ 64) : lN (b * p) ||| lN a = lN (b * p + a) := by
  subst hp
  have h1 : b * 2 ^ k ||| a = b * 2 ^ k + a := by rw [← Nat.shiftLeft_eq, Nat.shiftLeft_add_eq_or_of_lt ha]
  have h3 : UInt64.ofNat (b * 2 ^ k) ||| UInt64.ofNat a = UInt64.ofNat (b * 2 ^ k + a) := UInt64.toNat_inj.mp (by rw [UInt64.toNat_or, u_tn (by omega), u_tn (by omega), u_tn h, h1])
  have h2 := congrArg UInt64.toInt64 h3
  exact h2
theorem g_or' {k p a b : Nat} (hp : 2 ^ k = p) (ha : a < p) (h : a + b * p < 2 ^ 64) : lN a ||| lN (b * p) = lN (a + b * p) := by
  rw [Int64.or_comm, g_or hp ha (by omega), Nat.add_comm]
theorem g_ushr {a k p : Nat} {y : UInt64} (hy : y = UInt64.ofNat k) (hk : k < 64) (hp : 2 ^ k = p) (ha : a < 2 ^ 64) : ((lN a).toUInt64 >>> y).toInt64 = lN (a / p) := by
  subst hy hp
  have h : UInt64.ofNat a >>> UInt64.ofNat k = UInt64.ofNat (a / 2 ^ k) := UInt64.toNat_inj.mp (by rw [UInt64.toNat_shiftRight, u_tn ha, u_tn (by omega), u_tn (Nat.lt_of_le_of_lt (Nat.div_le_self _ _) ha), Nat.mod_eq_of_lt hk, Nat.shiftRight_eq_div_pow])
  have h2 := congrArg UInt64.toInt64 h
  exact h2
theorem g_shl {a k p : Nat} {y : Int64} (hy : y.toBitVec.smod 64 = BitVec.ofNat 64 k) (hk : k < 64) (hp : 2 ^ k = p) (ha : a < 2 ^ 64) : lN a <<< y = lN (a * p) := by
  subst hp
  apply Int64.toBitVec_inj.mp
  rw [Int64.toBitVec_shiftLeft, hy]
  apply BitVec.eq_of_toNat_eq
  have hb : (lN a).toBitVec.toNat = a := Nat.mod_eq_of_lt ha
  have hk' : (BitVec.ofNat 64 k).toNat = k := Nat.mod_eq_of_lt (by omega)
  have h : ((lN a).toBitVec <<< BitVec.ofNat 64 k).toNat = (a * 2 ^ k) % 2 ^ 64 := by simp only [BitVec.shiftLeft_eq', BitVec.toNat_shiftLeft, hb, hk', Nat.shiftLeft_eq]
  exact h
/-! ===== lN to 2^62 under >> and >>> ===== -/
theorem pf_lI {a : Nat} (h : a < 2 ^ 63) : (lN a).toInt = (a : Int) := lg_ofNat_toInt h
theorem pf_shr {a d : Nat} {D : Int64} (hD : (D.toBitVec.smod 64).toNat = d) (h : a < 2 ^ 62) : lN a >>> D = lN (a / 2 ^ d) := by
  have hd : a / 2 ^ d ≤ a := Nat.div_le_self _ _
  apply Int64.toInt_inj.mp
  have e : (lN a >>> D).toInt = (lN a).toInt >>> d := by
    rw [← hD]
    exact BitVec.toInt_sshiftRight ..
  rw [e, Int.shiftRight_eq_div_pow, pf_lI (by omega), pf_lI (by omega)]
  rfl
theorem pf_ushr {a d : Nat} {D : UInt64} (hD : D.toNat % 64 = d) (h : a < 2 ^ 62) : ((lN a).toUInt64 >>> D).toInt64 = lN (a / 2 ^ d) := by
  have hd : a / 2 ^ d ≤ a := Nat.div_le_self _ _
  have e : (lN a).toUInt64 >>> D = UInt64.ofNat (a / 2 ^ d) := UInt64.toNat_inj.mp (by
    rw [UInt64.toNat_shiftRight, hD, Nat.shiftRight_eq_div_pow, UInt64.toNat_ofNat']
    show (UInt64.ofNat a).toNat / 2 ^ d = _
    rw [UInt64.toNat_ofNat', Nat.mod_eq_of_lt (by omega), Nat.mod_eq_of_lt (by omega)])
  rw [e]
  rfl
theorem zsh_amt {b : Int} (h0 : 0 ≤ b) (h1 : b < 64) : ((zI b).toInt64 &&& 63) = lN b.toNat := by
  rw [zI_nI h0]
  exact wb_c _ (by omega)
theorem zsm {k : Nat} (hk : k < 64) : ((lN k).toBitVec.smod 64).toNat = k := by
  rw [wb_tb, wb_sm k hk, BitVec.toNat_ofNat]
  exact Nat.mod_eq_of_lt (by omega)
theorem z_shr_bv {w b : Int} (h0 : 0 ≤ b) (h1 : b < 64) : (zL w >>> ((zI b).toInt64 &&& 63)).toBitVec = (zL w).toBitVec.sshiftRight b.toNat := by
  rw [zsh_amt h0 h1]
  show (zL w).toBitVec.sshiftRight ((lN b.toNat).toBitVec.smod 64).toNat = _
  rw [zsm (by omega)]
/-- the bit b of the long w -/
def zbit (w b : Int) : Bool := (zL w).toBitVec.getLsbD b.toNat
theorem z_and1 (x : Int64) : x &&& zL 1 = zL (if x.toBitVec.getLsbD 0 = true then 1 else 0) := by
  apply Int64.toBitVec_inj.mp
  show x.toBitVec &&& 1#64 = _
  rw [BitVec.and_one_eq_setWidth_ofBool_getLsbD]
  cases x.toBitVec.getLsbD 0 <;> rfl
theorem z_bit_shr {w b : Int} (h0 : 0 ≤ b) (h1 : b < 64) : (zL w >>> ((zI b).toInt64 &&& 63)) &&& zL 1 = zL (if zbit w b = true then 1 else 0) := by
  rw [z_and1, z_shr_bv h0 h1, BitVec.getLsbD_sshiftRight]
  unfold zbit
  have hb : b.toNat < 64 := by omega
  simp [hb]
theorem z_bit_ushr {w b : Int} (h0 : 0 ≤ b) (h1 : b < 64) : ((zL w).toUInt64 >>> ((zI b).toInt64.toUInt64 &&& Int64.toUInt64 63)).toInt64 &&& zL 1 = zL (if zbit w b = true then 1 else 0) := by
  rw [z_and1]
  have e : (((zL w).toUInt64 >>> ((zI b).toInt64.toUInt64 &&& Int64.toUInt64 63)).toInt64).toBitVec = (zL w).toBitVec >>> b.toNat := by
    rw [zI_nI h0, wb_cu _ (by omega)]
    show (zL w).toBitVec >>> ((UInt64.ofNat b.toNat).toBitVec % 64) = _
    have h9 : ∀ k, k < 64 → (UInt64.ofNat k).toBitVec % 64 = BitVec.ofNat 64 k := by decide +kernel
    rw [h9 _ (by omega), BitVec.ushiftRight_eq', BitVec.toNat_ofNat, Nat.mod_eq_of_lt (by omega)]
  rw [e, BitVec.getLsbD_ushiftRight]
  unfold zbit
  rw [Nat.add_zero]
theorem z_shl1 {b : Int} (h0 : 0 ≤ b) (h1 : b < 64) : (zL 1 <<< ((zI b).toInt64 &&& 63)).toBitVec = BitVec.twoPow 64 b.toNat := by
  rw [zsh_amt h0 h1]
  show (1#64) <<< ((lN b.toNat).toBitVec.smod 64) = _
  rw [BitVec.shiftLeft_eq', zsm (by omega), BitVec.twoPow_eq]
def zset (w b : Int) : Int := (zL w ||| (zL 1 <<< ((zI b).toInt64 &&& 63))).toInt
def zclr (w b : Int) : Int := (zL w &&& ((zL 1 <<< ((zI b).toInt64 &&& 63)) ^^^ zL (-1))).toInt
theorem zset_eq (w b : Int) : (zL w ||| (zL 1 <<< ((zI b).toInt64 &&& 63))) = zL (zset w b) := (zL_self _).symm
theorem zclr_eq (w b : Int) : (zL w &&& ((zL 1 <<< ((zI b).toInt64 &&& 63)) ^^^ zL (-1))) = zL (zclr w b) := (zL_self _).symm
theorem zset_zQ (w b : Int) : zQ (zset w b) := zQ_self _
theorem zclr_zQ (w b : Int) : zQ (zclr w b) := zQ_self _
theorem zbit_set {w b c : Int} (h0 : 0 ≤ b) (h1 : b < 64) (g0 : 0 ≤ c) (g1 : c < 64) : zbit (zset w b) c = (decide (b = c) || zbit w c) := by
  unfold zbit
  rw [← zset_eq]
  show ((zL w).toBitVec ||| (zL 1 <<< ((zI b).toInt64 &&& 63)).toBitVec).getLsbD c.toNat = _
  rw [z_shl1 h0 h1, BitVec.getLsbD_or, BitVec.getLsbD_twoPow, Bool.or_comm]
  congr 1
  have e : (decide (b.toNat < 64)) = true := by simp; omega
  rw [e, Bool.true_and]
  by_cases hbc : b = c
  · subst hbc; simp
  · have : ¬ b.toNat = c.toNat := by omega
    simp [hbc, this]
theorem zbit_clr {w b c : Int} (h0 : 0 ≤ b) (h1 : b < 64) (g0 : 0 ≤ c) (g1 : c < 64) : zbit (zclr w b) c = (!decide (b = c) && zbit w c) := by
  unfold zbit
  rw [← zclr_eq]
  show ((zL w).toBitVec &&& ((zL 1 <<< ((zI b).toInt64 &&& 63)).toBitVec ^^^ BitVec.allOnes 64)).getLsbD c.toNat = _
  rw [z_shl1 h0 h1, BitVec.getLsbD_and, BitVec.getLsbD_xor, BitVec.getLsbD_twoPow, BitVec.getLsbD_allOnes, Bool.and_comm]
  congr 1
  have e : (decide (b.toNat < 64)) = true := by simp; omega
  have e2 : (decide (c.toNat < 64)) = true := by simp; omega
  rw [e, e2, Bool.true_and]
  by_cases hbc : b = c
  · subst hbc; simp
  · have : ¬ b.toNat = c.toNat := by omega
    simp [hbc, this]
theorem zbit_zero {c : Int} : zbit 0 c = false := by
  unfold zbit
  show (0#64).getLsbD c.toNat = false
  exact BitVec.getLsbD_zero
/-- a plate, a vehicle and a day in one number -/
def zpack (p v d : Int) : Int := p + v * 131072 + d * 2097152
theorem zpack_eq {p v d : Int} (hp : 0 ≤ p ∧ p < 131072) (hv : 0 ≤ v ∧ v < 16) (hd : 0 ≤ d ∧ d < 100000) : (zL p ||| (zL v <<< ((zI 17).toInt64 &&& 63))) ||| (zL d <<< ((zI 21).toInt64 &&& 63)) = zL (zpack p v d) := by
  rw [zsh_amt (by decide) (by decide), zsh_amt (by decide) (by decide), zL_lN hp.1, zL_lN hv.1, zL_lN hd.1, zL_lN (show 0 ≤ zpack p v d by unfold zpack; omega)]
  rw [g_shl (k := 17) (p := 131072) (by rw [wb_tb]; exact wb_sm 17 (by decide)) (by decide) (by decide) (by omega), g_shl (k := 21) (p := 2097152) (by rw [wb_tb]; exact wb_sm 21 (by decide)) (by decide) (by decide) (by omega)]
  rw [g_or' (k := 17) (p := 131072) (by decide) (by omega) (by omega), g_or' (k := 21) (p := 2097152) (by decide) (by omega) (by omega)]
  congr 1
  unfold zpack
  omega
theorem zpk_v {x : Int} (h : 0 ≤ x ∧ x < 1099511627776) : (zL x >>> ((zI 17).toInt64 &&& 63)) &&& zL 15 = zL (x / 131072 % 16) := by
  rw [zsh_amt (by decide) (by decide), show (17 : Int).toNat = 17 from rfl, zL_lN h.1, pf_shr (d := 17) (zsm (by decide)) (by omega)]
  rw [show zL 15 = lN (16 - 1) from rfl, g_mask (s := 4) (p := 16) (by decide) (by decide) (by omega), zL_lN (by omega)]
  congr 1
  omega
theorem zpk_d {x : Int} (h : 0 ≤ x ∧ x < 1099511627776) : zL x >>> ((zI 21).toInt64 &&& 63) = zL (x / 2097152) := by
  rw [zsh_amt (by decide) (by decide), show (21 : Int).toNat = 21 from rfl, zL_lN h.1, pf_shr (d := 21) (zsm (by decide)) (by omega), zL_lN (by omega)]
  congr 1
  omega
theorem zpk_p {x : Int} (h : 0 ≤ x ∧ x < 1099511627776) : zL x &&& zL 131071 = zL (x % 131072) := by
  rw [zL_lN h.1]
  rw [show zL 131071 = lN (131072 - 1) from rfl, g_mask (s := 17) (p := 131072) (by decide) (by decide) (by omega), zL_lN (by omega)]
  congr 1
  omega
theorem z_w5 {x : Int} {j : Nat} (h : 0 ≤ x ∧ x < 1099511627776) (hj : j < 8) : (zL x >>> ((zI (5 * (j : Int))).toInt64 &&& 63)) &&& zL 31 = zL (x / 2 ^ (5 * j) % 32) := by
  have e1 : (5 * (j : Int)).toNat = 5 * j := by omega
  have hp : 0 < 2 ^ (5 * j) := Nat.pos_of_ne_zero (by simp)
  have hq : x.toNat / 2 ^ (5 * j) ≤ x.toNat := Nat.div_le_self _ _
  have e3 : (x / 2 ^ (5 * j) % 32).toNat = x.toNat / 2 ^ (5 * j) % 32 := by
    have e4 : (x / 2 ^ (5 * j) : Int) = ((x.toNat / 2 ^ (5 * j) : Nat) : Int) := by
      conv => lhs; rw [← Int.toNat_of_nonneg h.1]
      norm_cast
    rw [e4]
    omega
  have h0 : 0 ≤ x / 2 ^ (5 * j) % 32 := Int.emod_nonneg _ (by decide)
  rw [zsh_amt (by omega) (by omega), e1, zL_lN h.1, pf_shr (d := 5 * j) (zsm (by omega)) (by omega)]
  rw [show zL 31 = lN (32 - 1) from rfl, g_mask (s := 5) (p := 32) (by decide) (by decide) (by omega), zL_lN h0, e3]
theorem zpack_v {p v d : Int} (hp : 0 ≤ p ∧ p < 131072) (hv : 0 ≤ v ∧ v < 16) (hd : 0 ≤ d ∧ d < 100000) : (zL (zpack p v d) >>> ((zI 17).toInt64 &&& 63)) &&& zL 15 = zL v := by
  rw [zsh_amt (by decide) (by decide), show (17 : Int).toNat = 17 from rfl, zL_lN (show 0 ≤ zpack p v d by unfold zpack; omega), pf_shr (d := 17) (zsm (by decide)) (by unfold zpack; omega)]
  rw [show zL 15 = lN (16 - 1) from rfl, g_mask (s := 4) (p := 16) (by decide) (by decide) (by unfold zpack; omega), zL_lN hv.1]
  congr 1
  unfold zpack
  omega
theorem zpack_d {p v d : Int} (hp : 0 ≤ p ∧ p < 131072) (hv : 0 ≤ v ∧ v < 16) (hd : 0 ≤ d ∧ d < 100000) : zL (zpack p v d) >>> ((zI 21).toInt64 &&& 63) = zL d := by
  rw [zsh_amt (by decide) (by decide), show (21 : Int).toNat = 21 from rfl, zL_lN (show 0 ≤ zpack p v d by unfold zpack; omega), pf_shr (d := 21) (zsm (by decide)) (by unfold zpack; omega), zL_lN hd.1]
  congr 1
  unfold zpack
  omega
theorem zpack_p {p v d : Int} (hp : 0 ≤ p ∧ p < 131072) (hv : 0 ≤ v ∧ v < 16) (hd : 0 ≤ d ∧ d < 100000) : zL (zpack p v d) &&& zL 131071 = zL p := by
  rw [zL_lN (show 0 ≤ zpack p v d by unfold zpack; omega)]
  rw [show zL 131071 = lN (131072 - 1) from rfl, g_mask (s := 17) (p := 131072) (by decide) (by decide) (by unfold zpack; omega), zL_lN hp.1]
  congr 1
  unfold zpack
  omega
section Lcmp
variable {g : zGT} {M : zM} {mc ms : Nat} {Q : zO → zH → Prop} {pc : Nat} {lv : List (Option Value)} {st : List Value} {h : zH} {bc bs : Nat}
theorem r_lcmp {a b : Int} (ha : zQ a) (hb : zQ b) (pc' : Nat) (hp : pc + 1 = pc') (d : decode M.2.1 pc = .ok (.lcmp, 1)) (k1 : a < b → zX g M mc ms Q pc' lv (.int (zI (-1)) :: st) h bc bs) (k2 : a = b → zX g M mc ms Q pc' lv (.int (zI 0) :: st) h bc bs) (k3 : b < a → zX g M mc ms Q pc' lv (.int (zI 1) :: st) h bc bs) : zX g M mc ms Q pc lv (.long (zL b) :: .long (zL a) :: st) h bc bs := by
  refine r_lcmp_any pc' hp d ?_
  rcases Int.lt_trichotomy a b with q | q | q
  · have := k1 q
    rwa [show lg_cmp (zL a) (zL b) = zI (-1) by unfold lg_cmp; rw [if_neg (by rw [gt_iff_lt, zL_lt hb ha]; omega), if_neg (by rw [zL_eq ha hb]; omega)]; rfl]
  · have := k2 q
    rwa [show lg_cmp (zL a) (zL b) = zI 0 by unfold lg_cmp; rw [if_neg (by rw [gt_iff_lt, zL_lt hb ha]; omega), if_pos (by rw [q])]; rfl]
  · have := k3 q
    rwa [show lg_cmp (zL a) (zL b) = zI 1 by unfold lg_cmp; rw [if_pos (by rw [gt_iff_lt, zL_lt hb ha]; exact q)]; rfl]
theorem r_l2iz {a : Int} (ha : zR a) (pc' : Nat) (hp : pc + 1 = pc') (d : decode M.2.1 pc = .ok (.l2i, 1)) (k : zX g M mc ms Q pc' lv (.int (zI a) :: st) h bc bs) : zX g M mc ms Q pc lv (.long (zL a) :: st) h bc bs := by
  refine r_l2i pc' hp d ?_
  rw [zL_toI ha]
  exact k
theorem r_tsIn {dflt lo hi off : Int} {offs : Array Int} {len : Nat} {x : Int32} (tgt : Nat) (h1 : ¬ x.toInt < lo) (h2 : ¬ hi < x.toInt) (ho : offs[(x.toInt - lo).toNat]? = some off) (ht : (pc : Int) + off = (tgt : Int)) (d : decode M.2.1 pc = .ok (.tableswitch dflt lo hi offs, len)) (k : zX g M mc ms Q tgt lv st h bc bs) : zX g M mc ms Q pc lv (.int x :: st) h bc bs := by
  intro p e s m args below meth c F H locs cells slots ls hP hs hL hc hsl hl
  exact lv_tableIn F.1 F.2.1 d h1 h2 ho ht (k p e s m args below meth c F H locs cells slots ls hP hs hL hc hsl hl)
theorem r_tsOut {dflt lo hi : Int} {offs : Array Int} {len : Nat} {x : Int32} (tgt : Nat) (h1 : x.toInt < lo ∨ hi < x.toInt) (ht : (pc : Int) + dflt = (tgt : Int)) (d : decode M.2.1 pc = .ok (.tableswitch dflt lo hi offs, len)) (k : zX g M mc ms Q tgt lv st h bc bs) : zX g M mc ms Q pc lv (.int x :: st) h bc bs := by
  intro p e s m args below meth c F H locs cells slots ls hP hs hL hc hsl hl
  exact lv_tableOut F.1 F.2.1 d h1 ht (k p e s m args below meth c F H locs cells slots ls hP hs hL hc hsl hl)
end Lcmp
