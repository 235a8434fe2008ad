/-! The class's functions and the reference's are the same: bytes of words, the stream. -/
theorem toNat_mod32 : ∀ k : Nat, k < 32 → ((nI k).toUInt32 &&& Int32.toUInt32 31).toNat % 32 = k := by decide
theorem upd_at (f : Nat → Int32) (k : Nat) (x : Int32) : upd f k x k = x := pk_us
theorem upd_ne {f : Nat → Int32} {k j : Nat} {x : Int32} (h : j ≠ k) : upd f k x j = f j := pk_un h
theorem updL_at (f : Nat → Int64) (k : Nat) (x : Int64) : vp_updL f k x k = x := pk_uLs
theorem updL_ne {f : Nat → Int64} {k j : Nat} {x : Int64} (h : j ≠ k) : vp_updL f k x j = f j := pk_uLn h
/-- the low byte of a word's shift does not tell which shift it was -/
theorem sB_eq {x y : Int32} (h : x.toBitVec.setWidth 8 = y.toBitVec.setWidth 8) : sB x = sB y := by
  unfold sB
  congr 1
  apply Int8.toBitVec_inj.mp
  rw [Int32.toBitVec_toInt8, Int32.toBitVec_toInt8, BitVec.signExtend_eq_setWidth_of_le _ (by decide), BitVec.signExtend_eq_setWidth_of_le _ (by decide)]
  exact h
theorem shr_bv (x : Int32) (k : Nat) (hk : k < 32) : (shr x (nI k)).toBitVec = x.toBitVec.sshiftRight k := by
  unfold shr
  rw [Int32.toBitVec_shiftRight]
  have e : ((nI k &&& 31).toBitVec.smod 32).toNat = k := by
    have : ∀ k : Nat, k < 32 → ((nI k &&& 31).toBitVec.smod 32).toNat = k := by decide
    exact this k hk
  show x.toBitVec.sshiftRight ((nI k &&& 31).toBitVec.smod 32).toNat = _
  rw [e]
theorem ushr_bv (x : Int32) (k : Nat) (hk : k < 32) : (ushr x (nI k)).toBitVec = x.toBitVec >>> k := by
  unfold ushr
  show ((x.toUInt32 >>> _).toBitVec) = _
  rw [UInt32.toBitVec_shiftRight]
  have e : (((nI k).toUInt32 &&& Int32.toUInt32 31).toBitVec % 32).toNat = k := by
    have : ∀ k : Nat, k < 32 → (((nI k).toUInt32 &&& Int32.toUInt32 31).toBitVec % 32).toNat = k := by decide
    exact this k hk
  show x.toBitVec >>> (((nI k).toUInt32 &&& Int32.toUInt32 31).toBitVec % 32).toNat = _
  rw [e]
theorem sB_shr (x : Int32) (k : Nat) (hk : k ≤ 24) : sB (ushr x (nI k)) = sB (shr x (nI k)) := by
  apply sB_eq
  rw [shr_bv x k (by omega), ushr_bv x k (by omega)]
  apply BitVec.eq_of_getLsbD_eq
  intro i hi
  simp only [BitVec.getLsbD_setWidth, BitVec.getLsbD_ushiftRight, BitVec.getLsbD_sshiftRight]
  have h1 : i < 8 := hi
  have h2 : k + i < 32 := by omega
  have h3 : ¬ 32 ≤ i := by omega
  simp [h1, h2, h3]
theorem wh_pw (f : Nat → Int32) (k : Nat) (x : Int32) : wh f k x = pw f k x := by
  unfold wh pw
  have e1 := sB_shr x 24 (by omega)
  have e2 := sB_shr x 16 (by omega)
  have e3 := sB_shr x 8 (by omega)
  have e4 : sB x = sB (shr x 0) := by
    have := sB_shr x 0 (by omega)
    rw [show shr x 0 = shr x (nI 0) from rfl, ← this]
    apply sB_eq
    rw [ushr_bv x 0 (by omega)]
    rfl
  rw [show ushr x 24 = ushr x (nI 24) from rfl, show ushr x 16 = ushr x (nI 16) from rfl, show ushr x 8 = ushr x (nI 8) from rfl, e1, e2, e3, e4]
  rfl
