/-! Words of 32 bits kept in longs. -/
theorem m32_bit (i : Nat) : (4294967295#64).getLsbD i = decide (i < 32) := by
  rw [BitVec.getLsbD_ofNat, show (4294967295 : Nat) = 2 ^ 32 - 1 from rfl, Nat.testBit_two_pow_sub_one]
  by_cases h : i < 32
  · simp [h]; omega
  · simp [h]
theorem m32_bv : (4294967295 : Int64).toBitVec = 4294967295#64 := rfl
/-- an int as a long of 32 bits -/
def zx (x : Int32) : Int64 := x.toInt64 &&& 4294967295
theorem zx_bv (x : Int32) : (zx x).toBitVec = x.toBitVec.setWidth 64 := by
  unfold zx
  rw [Int64.toBitVec_and, Int32.toBitVec_toInt64, m32_bv]
  apply BitVec.eq_of_getLsbD_eq
  intro i hi
  rw [BitVec.getLsbD_and, m32_bit, BitVec.getLsbD_signExtend, BitVec.getLsbD_setWidth]
  by_cases h : i < 32
  · simp [h]
  · have h2 : x.toBitVec.getLsbD i = false := BitVec.getLsbD_of_ge _ _ (by omega)
    simp [h, h2]
theorem lo_bv (e : Int64) : e.toInt32.toBitVec = e.toBitVec.setWidth 32 := by
  rw [Int64.toBitVec_toInt32, BitVec.signExtend_eq_setWidth_of_le _ (by decide)]
theorem zx_lo (e : Int64) : e &&& 4294967295 = zx e.toInt32 := by
  apply Int64.toBitVec_inj.mp
  rw [zx_bv, lo_bv, Int64.toBitVec_and, m32_bv]
  apply BitVec.eq_of_getLsbD_eq
  intro i hi
  rw [BitVec.getLsbD_and, m32_bit, BitVec.getLsbD_setWidth, BitVec.getLsbD_setWidth]
  by_cases h : i < 32
  · simp [h]; omega
  · simp [h]
theorem lo_zx (x : Int32) : (zx x).toInt32 = x := by
  apply Int32.toBitVec_inj.mp
  rw [lo_bv, zx_bv]
  apply BitVec.eq_of_getLsbD_eq
  intro i hi
  rw [BitVec.getLsbD_setWidth, BitVec.getLsbD_setWidth]
  have h : i < 64 := by omega
  simp [hi, h]
theorem zx_xor (x y : Int32) : zx x ^^^ zx y = zx (x ^^^ y) := by
  apply Int64.toBitVec_inj.mp
  rw [Int64.toBitVec_xor, zx_bv, zx_bv, zx_bv, Int32.toBitVec_xor, BitVec.setWidth_xor]
theorem zx_and (x y : Int32) : zx x &&& zx y = zx (x &&& y) := by
  apply Int64.toBitVec_inj.mp
  rw [Int64.toBitVec_and, zx_bv, zx_bv, zx_bv, Int32.toBitVec_and, BitVec.setWidth_and]
theorem zx_or (x y : Int32) : zx x ||| zx y = zx (x ||| y) := by
  apply Int64.toBitVec_inj.mp
  rw [Int64.toBitVec_or, zx_bv, zx_bv, zx_bv, Int32.toBitVec_or, BitVec.setWidth_or]
theorem lo_add (a b : Int64) : (a + b).toInt32 = a.toInt32 + b.toInt32 := by
  apply Int32.toBitVec_inj.mp
  rw [lo_bv, Int32.toBitVec_add, lo_bv, lo_bv, Int64.toBitVec_add]
  exact BitVec.setWidth_add _ _ (by decide)
theorem smod64 : ∀ k : Nat, k < 64 → (((nI k).toInt64 &&& 63).toBitVec.smod 64).toNat = k := by decide
theorem umod64 : ∀ k : Nat, k < 64 → (((nI k).toInt64.toUInt64 &&& Int64.toUInt64 63).toBitVec % 64).toNat = k := by decide
theorem lshr_bv (x : Int64) (k : Nat) (hk : k < 64) : (lshr x (nI k)).toBitVec = x.toBitVec.sshiftRight k := by
  unfold lshr
  rw [Int64.toBitVec_shiftRight]
  show x.toBitVec.sshiftRight (((nI k).toInt64 &&& 63).toBitVec.smod 64).toNat = _
  rw [smod64 k hk]
theorem lshl_bv (x : Int64) (k : Nat) (hk : k < 64) : (lshl x (nI k)).toBitVec = x.toBitVec <<< k := by
  unfold lshl
  rw [Int64.toBitVec_shiftLeft]
  show x.toBitVec <<< (((nI k).toInt64 &&& 63).toBitVec.smod 64).toNat = _
  rw [smod64 k hk]
theorem lushr_bv (x : Int64) (k : Nat) (hk : k < 64) : (lushr x (nI k)).toBitVec = x.toBitVec >>> k := by
  unfold lushr
  show ((x.toUInt64 >>> _).toBitVec) = _
  rw [UInt64.toBitVec_shiftRight]
  show x.toBitVec >>> (((nI k).toInt64.toUInt64 &&& Int64.toUInt64 63).toBitVec % 64).toNat = _
  rw [umod64 k hk]
theorem shl_bv (x : Int32) (k : Nat) (hk : k < 32) : (shl x (nI k)).toBitVec = x.toBitVec <<< k := by
  unfold shl
  rw [Int32.toBitVec_shiftLeft]
  have e : ((nI k &&& 31).toBitVec.smod 32).toNat = k := by
    have : ∀ k : Nat, k < 32 → ((nI k &&& 31).toBitVec.smod 32).toNat = k := by decide
    exact this k hk
  show x.toBitVec <<< ((nI k &&& 31).toBitVec.smod 32).toNat = _
  rw [e]
/-- a shift to the right of a word in a long -/
theorem zx_shr (x : Int32) (k : Nat) (hk : k < 32) : lshr (zx x) (nI k) = zx (ushr x (nI k)) := by
  apply Int64.toBitVec_inj.mp
  rw [lshr_bv _ k (by omega), zx_bv, zx_bv, ushr_bv x k hk]
  apply BitVec.eq_of_getLsbD_eq
  intro i hi
  rw [BitVec.getLsbD_sshiftRight, BitVec.getLsbD_setWidth, BitVec.getLsbD_setWidth, BitVec.getLsbD_ushiftRight]
  have hm : (BitVec.setWidth 64 x.toBitVec).msb = false := by
    rw [BitVec.msb_eq_getLsbD_last, BitVec.getLsbD_setWidth]
    have : x.toBitVec.getLsbD (64 - 1) = false := BitVec.getLsbD_of_ge _ _ (by decide)
    rw [this]
    simp
  rw [hm]
  have h1 : ¬ 64 ≤ i := by omega
  by_cases h : k + i < 64
  · simp [h, hi]
  · have h2 : x.toBitVec.getLsbD (k + i) = false := BitVec.getLsbD_of_ge _ _ (by omega)
    simp [h, h2]
theorem sub32 (k : Nat) (h : k ≤ 32) : (32 : Int32) - nI k = nI (32 - k) := pk_sub (a := 32) h
/-- the turn of a word in a long -/
theorem zx_turn (x : Int32) (k : Nat) (h0 : 0 < k) (hk : k < 32) : mtn (zx x) (nI k) = zx (tr x (nI k)) := by
  unfold mtn tr
  rw [zx_lo, sub32 k (by omega)]
  congr 1
  rw [Int64.toInt32_or, zx_shr x k hk, lo_zx]
  congr 1
  apply Int32.toBitVec_inj.mp
  rw [lo_bv, lshl_bv _ _ (by omega), zx_bv, shl_bv x _ (by omega)]
  apply BitVec.eq_of_getLsbD_eq
  intro i hi
  simp only [BitVec.getLsbD_setWidth, BitVec.getLsbD_shiftLeft]
  have h1 : i < 64 := by omega
  have h2 : i - (32 - k) < 64 := by omega
  simp [hi, h1, h2]
theorem zx_not (x : Int32) : 4294967295 - zx x = zx (x ^^^ (-1)) := by
  apply Int64.toBitVec_inj.mp
  rw [Int64.toBitVec_sub, m32_bv, zx_bv, zx_bv, Int32.toBitVec_xor]
  have e : (-1 : Int32).toBitVec = BitVec.allOnes 32 := rfl
  rw [e, BitVec.xor_allOnes]
  apply BitVec.eq_of_toNat_eq
  rw [BitVec.toNat_sub, BitVec.toNat_setWidth, BitVec.toNat_setWidth, BitVec.toNat_not]
  have h := x.toBitVec.isLt
  rw [Nat.mod_eq_of_lt (show x.toBitVec.toNat < 2 ^ 64 by omega), Nat.mod_eq_of_lt (show 2 ^ 32 - 1 - x.toBitVec.toNat < 2 ^ 64 by omega)]
  show (2 ^ 64 - x.toBitVec.toNat + 4294967295) % 2 ^ 64 = _
  omega
theorem ch_eq (e f g : Int32) : (e &&& f) ||| ((e ^^^ (-1)) &&& g) = (e &&& f) ^^^ ((e ^^^ (-1)) &&& g) := by
  apply Int32.toBitVec_inj.mp
  rw [Int32.toBitVec_or, Int32.toBitVec_xor, Int32.toBitVec_and, Int32.toBitVec_and, Int32.toBitVec_xor]
  have e1 : (-1 : Int32).toBitVec = BitVec.allOnes 32 := rfl
  rw [e1, BitVec.xor_allOnes]
  apply BitVec.eq_of_getLsbD_eq
  intro i hi
  simp only [BitVec.getLsbD_or, BitVec.getLsbD_xor, BitVec.getLsbD_and, BitVec.getLsbD_not, hi, decide_true, Bool.true_and]
  cases e.toBitVec.getLsbD i <;> cases f.toBitVec.getLsbD i <;> cases g.toBitVec.getLsbD i <;> rfl
theorem maj_eq (a b c : Int32) : (a &&& b) ||| (a &&& c) ||| (b &&& c) = (a &&& b) ^^^ (a &&& c) ^^^ (b &&& c) := by
  apply Int32.toBitVec_inj.mp
  rw [Int32.toBitVec_or, Int32.toBitVec_or, Int32.toBitVec_xor, Int32.toBitVec_xor, Int32.toBitVec_and, Int32.toBitVec_and, Int32.toBitVec_and]
  apply BitVec.eq_of_getLsbD_eq
  intro i hi
  simp only [BitVec.getLsbD_or, BitVec.getLsbD_xor, BitVec.getLsbD_and]
  cases a.toBitVec.getLsbD i <;> cases b.toBitVec.getLsbD i <;> cases c.toBitVec.getLsbD i <;> rfl
