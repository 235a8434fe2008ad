/-! SHA-256: one block, the class's and the reference's. -/
theorem rounds_same : ∀ k : Nat, k < 64 → tROUND k = tADDED k := by decide
theorem begin_same : ∀ k : Nat, k < 8 → tBEGIN k = tFIRST k := by decide
theorem add4 (a b c d : Int32) : a + b + c + d = d + c + b + a := by
  apply Int32.toBitVec_inj.mp
  simp only [Int32.toBitVec_add]
  ac_rfl
theorem add3 (a b c : Int32) : a + b + c = a + (c + b) := by
  apply Int32.toBitVec_inj.mp
  simp only [Int32.toBitVec_add]
  ac_rfl
def zf (f : Nat → Int32) : Nat → Int64 := fun j => zx (f j)
theorem r8x_lo (f : Nat → Int32) (k w : Int32) : (r8x (r80 (zf f)) k (zx w)).toInt32 = lowF f (w + k) := by
  show (zx (f 7) + (mtn (zx (f 4)) (nI 6) ^^^ mtn (zx (f 4)) (nI 11) ^^^ mtn (zx (f 4)) (nI 25)) + ((zx (f 4) &&& zx (f 5)) ||| ((4294967295 - zx (f 4)) &&& zx (f 6))) + zx k + zx w).toInt32 = _
  rw [zx_turn (f 4) 6 (by decide) (by decide), zx_turn (f 4) 11 (by decide) (by decide), zx_turn (f 4) 25 (by decide) (by decide), zx_xor, zx_xor, zx_and, zx_not, zx_and, zx_or, lo_add, lo_add, lo_add, lo_add, lo_zx, lo_zx, lo_zx, lo_zx, lo_zx, ch_eq, add3]
  rfl
theorem r8y_lo (f : Nat → Int32) : (r8y (r80 (zf f))).toInt32 = highF f := by
  show ((mtn (zx (f 0)) (nI 2) ^^^ mtn (zx (f 0)) (nI 13) ^^^ mtn (zx (f 0)) (nI 22)) + ((zx (f 0) &&& zx (f 1)) ||| (zx (f 0) &&& zx (f 2)) ||| (zx (f 1) &&& zx (f 2)))).toInt32 = _
  rw [zx_turn (f 0) 2 (by decide) (by decide), zx_turn (f 0) 13 (by decide) (by decide), zx_turn (f 0) 22 (by decide) (by decide), zx_xor, zx_xor, zx_and, zx_and, zx_and, zx_or, zx_or, lo_add, lo_zx, lo_zx, maj_eq]
  rfl
theorem r8_eq (f : Nat → Int32) (k w : Int32) : r8 (r80 (zf f)) k (zx w) = r80 (zf (mr f (w + k))) := by
  have e1 : (r8x (r80 (zf f)) k (zx w) + r8y (r80 (zf f))) &&& 4294967295 = zx (lowF f (w + k) + highF f) := by rw [zx_lo, lo_add, r8x_lo, r8y_lo]
  have e2 : (zx (f 3) + r8x (r80 (zf f)) k (zx w)) &&& 4294967295 = zx (f 3 + lowF f (w + k)) := by rw [zx_lo, lo_add, r8x_lo, lo_zx]
  show ((r8x (r80 (zf f)) k (zx w) + r8y (r80 (zf f))) &&& 4294967295, zx (f 0), zx (f 1), zx (f 2), (zx (f 3) + r8x (r80 (zf f)) k (zx w)) &&& 4294967295, zx (f 4), zx (f 5), zx (f 6)) = _
  rw [e1, e2]
  rfl
theorem rs_eq (f s : Nat → Int32) (W : Nat → Int64) (hW : ∀ k, k < 64 → W k = zx (s k)) : ∀ n, n ≤ 64 → rs (r80 (zf f)) W n = r80 (zf (mrs f s n))
  | 0, _ => rfl
  | n + 1, h => by
    show r8 (rs (r80 (zf f)) W n) (tROUND n) (W n) = r80 (zf (mr (mrs f s n) (s n + tADDED n)))
    rw [rs_eq f s W hW n (by omega), hW n (by omega), rounds_same n (by omega), r8_eq]
theorem byte_zx (y : Int32) : (y &&& 255).toInt64 = zx (y &&& 255) := by
  apply Int64.toBitVec_inj.mp
  rw [zx_bv, Int32.toBitVec_toInt64]
  apply BitVec.signExtend_eq_setWidth_of_msb_false
  rw [Int32.toBitVec_and, BitVec.msb_and]
  have : (255 : Int32).toBitVec.msb = false := by decide
  rw [this, Bool.and_false]
theorem byte_bit (y : Int32) (i : Nat) (h : 8 ≤ i) : (y &&& 255).toBitVec.getLsbD i = false := by
  rw [Int32.toBitVec_and, BitVec.getLsbD_and]
  have : (255 : Int32).toBitVec.getLsbD i = false := by
    show (255#32).getLsbD i = false
    rw [BitVec.getLsbD_ofNat, show (255 : Nat) = 2 ^ 8 - 1 from rfl, Nat.testBit_two_pow_sub_one]
    simp; omega
  rw [this, Bool.and_false]
theorem word4 (a b c d : Int32) (ha : ∀ i, 8 ≤ i → a.toBitVec.getLsbD i = false) (hb : ∀ i, 8 ≤ i → b.toBitVec.getLsbD i = false) (hc : ∀ i, 8 ≤ i → c.toBitVec.getLsbD i = false) (hd : ∀ i, 8 ≤ i → d.toBitVec.getLsbD i = false) :
    lshl (lshl (lshl (lshl 0 (nI 8) ||| zx a) (nI 8) ||| zx b) (nI 8) ||| zx c) (nI 8) ||| zx d = zx (shl a (nI 24) ||| shl b (nI 16) ||| shl c (nI 8) ||| d) := by
  apply Int64.toBitVec_inj.mp
  rw [Int64.toBitVec_or, lshl_bv _ 8 (by decide), Int64.toBitVec_or, lshl_bv _ 8 (by decide), Int64.toBitVec_or, lshl_bv _ 8 (by decide), Int64.toBitVec_or, lshl_bv _ 8 (by decide), zx_bv, zx_bv, zx_bv, zx_bv, zx_bv, Int32.toBitVec_or, Int32.toBitVec_or, Int32.toBitVec_or, shl_bv _ 24 (by decide), shl_bv _ 16 (by decide), shl_bv _ 8 (by decide)]
  apply BitVec.eq_of_getLsbD_eq
  intro i hi
  simp only [BitVec.getLsbD_or, BitVec.getLsbD_shiftLeft, BitVec.getLsbD_setWidth, Int64.toBitVec_zero, BitVec.getLsbD_zero]
  by_cases h1 : i < 8
  · have q1 : i < 64 := by omega
    have q2 : i < 16 := by omega
    have q3 : i < 24 := by omega
    simp [h1, q1, q2, q3]
  · by_cases h2 : i < 16
    · have q1 : i < 64 := by omega
      have q2 : i - 8 < 64 := by omega
      have q3 : i - 8 < 8 := by omega
      have q4 : i < 32 := by omega
      have q5 : i < 24 := by omega
      have e := hd i (by omega)
      simp [h1, h2, q1, q2, q3, q4, q5, e]
    · by_cases h3 : i < 24
      · have q1 : i < 64 := by omega
        have q2 : i - 8 < 64 := by omega
        have q3 : ¬ i - 8 < 8 := by omega
        have q4 : i - 8 - 8 < 8 := by omega
        have q5 : i - 8 - 8 < 64 := by omega
        have q6 : i < 32 := by omega
        have e1 := hd i (by omega)
        have e2 := hc (i - 8) (by omega)
        have e3 : i - 16 = i - 8 - 8 := by omega
        simp [h1, h2, h3, q1, q2, q3, q4, q5, q6, e1, e2, e3]
      · by_cases h4 : i < 32
        · have q1 : i < 64 := by omega
          have q2 : i - 8 < 64 := by omega
          have q3 : ¬ i - 8 < 8 := by omega
          have q4 : ¬ i - 8 - 8 < 8 := by omega
          have q5 : i - 8 - 8 < 64 := by omega
          have q6 : i - 8 - 8 - 8 < 8 := by omega
          have q7 : i - 8 - 8 - 8 < 64 := by omega
          have e1 := hd i (by omega)
          have e2 := hc (i - 8) (by omega)
          have e3 := hb (i - 8 - 8) (by omega)
          have e4 : i - 16 = i - 8 - 8 := by omega
          have e5 : i - 24 = i - 8 - 8 - 8 := by omega
          simp [h1, h2, h3, h4, q1, q2, q3, q4, q5, q6, q7, e1, e2, e3, e4, e5]
        · have e1 := hd i (by omega)
          have e2 := hc (i - 8) (by omega)
          have e3 := hb (i - 8 - 8) (by omega)
          have e4 := ha (i - 8 - 8 - 8) (by omega)
          simp [h4, e1, e2, e3, e4]
theorem wx_eq (row bl : Nat → Int32) (n whl k0 k : Nat) (h : ∀ i, i < 4 → bl (4 * k + i) &&& 255 = bsel row n whl (k0 + 4 * k + i)) : wx row n whl k0 k 4 = zx (rh bl (4 * k)) := by
  show lshl (lshl (lshl (lshl 0 (nI 8) ||| (bsel row n whl (k0 + 4 * k + 0)).toInt64) (nI 8) ||| (bsel row n whl (k0 + 4 * k + 1)).toInt64) (nI 8) ||| (bsel row n whl (k0 + 4 * k + 2)).toInt64) (nI 8) ||| (bsel row n whl (k0 + 4 * k + 3)).toInt64 = _
  rw [← h 0 (by decide), ← h 1 (by decide), ← h 2 (by decide), ← h 3 (by decide), byte_zx, byte_zx, byte_zx, byte_zx, word4 _ _ _ _ (byte_bit _) (byte_bit _) (byte_bit _) (byte_bit _)]
  rfl
theorem sp1_at (b s : Nat → Int32) : ∀ n k, sp1 b s n k = if k < n then rh b (4 * k) else s k
  | 0, k => by rw [if_neg (by omega)]; rfl
  | n + 1, k => by
    show upd (sp1 b s n) n (rh b (4 * n)) k = _
    by_cases h : k = n
    · subst h; rw [upd_at, if_pos (by omega)]
    · rw [upd_ne h, sp1_at b s n k]
      by_cases h2 : k < n
      · rw [if_pos h2, if_pos (by omega)]
      · rw [if_neg h2, if_neg (by omega)]
theorem wl16_at (row : Nat → Int32) (n whl k0 : Nat) (w : Nat → Int64) : ∀ m k, wl16 row n whl k0 w m k = if k < m then wx row n whl k0 k 4 else w k
  | 0, k => by rw [if_neg (by omega)]; rfl
  | m + 1, k => by
    show vp_updL (wl16 row n whl k0 w m) m (wx row n whl k0 m 4) k = _
    by_cases h : k = m
    · subst h; rw [updL_at, if_pos (by omega)]
    · rw [updL_ne h, wl16_at row n whl k0 w m k]
      by_cases h2 : k < m
      · rw [if_pos h2, if_pos (by omega)]
      · rw [if_neg h2, if_neg (by omega)]
theorem mext_at (s : Nat → Int32) (w : Nat → Int64) (k : Nat) (hk : 16 ≤ k) (h : ∀ j, j < k → w j = zx (s j)) : mext w k k = zx (ext s k k) := by
  unfold mext ext
  rw [updL_at, upd_at, zx_lo, h (k - 16) (by omega), h (k - 15) (by omega), h (k - 7) (by omega), h (k - 2) (by omega)]
  congr 1
  show (zx (s (k - 16)) + (mtn (zx (s (k - 15))) (nI 7) ^^^ mtn (zx (s (k - 15))) (nI 18) ^^^ lshr (zx (s (k - 15))) (nI 3)) + zx (s (k - 7)) + (mtn (zx (s (k - 2))) (nI 17) ^^^ mtn (zx (s (k - 2))) (nI 19) ^^^ lshr (zx (s (k - 2))) (nI 10))).toInt32 = _
  rw [zx_turn _ 7 (by decide) (by decide), zx_turn _ 18 (by decide) (by decide), zx_shr _ 3 (by decide), zx_turn _ 17 (by decide) (by decide), zx_turn _ 19 (by decide) (by decide), zx_shr _ 10 (by decide), zx_xor, zx_xor, zx_xor, zx_xor, lo_add, lo_add, lo_add, lo_zx, lo_zx, lo_zx, lo_zx, add4]
  rfl
theorem ws48_eq (s : Nat → Int32) (w : Nat → Int64) (h : ∀ j, j < 16 → w j = zx (s j)) : ∀ n j, j < 16 + n → ws48 w n j = zx (sp2 s n j)
  | 0, j, hj => h j hj
  | n + 1, j, hj => by
    show mext (ws48 w n) (16 + n) j = zx (ext (sp2 s n) (16 + n) j)
    by_cases e : j = 16 + n
    · subst e
      exact mext_at (sp2 s n) (ws48 w n) (16 + n) (by omega) (ws48_eq s w h n)
    · unfold mext ext
      rw [updL_ne e, upd_ne e]
      exact ws48_eq s w h n j (by omega)
theorem wF_eq (row bl sc : Nat → Int32) (n whl k0 : Nat) (w : Nat → Int64) (hb : ∀ p, p < 64 → bl p &&& 255 = bsel row n whl (k0 + p)) : ∀ k, k < 64 → wF row n whl k0 w k = zx (spF bl sc k) := by
  intro k hk
  unfold wF spF
  refine ws48_eq (sp1 bl sc 16) (wl16 row n whl k0 w 16) ?_ 48 k (by omega)
  intro j hj
  rw [wl16_at, if_pos hj, sp1_at, if_pos hj]
  apply wx_eq
  intro i hi
  rw [Nat.add_assoc]
  exact hb (4 * j + i) (by omega)
theorem l8 {P : Nat → Prop} (h0 : P 0) (h1 : P 1) (h2 : P 2) (h3 : P 3) (h4 : P 4) (h5 : P 5) (h6 : P 6) (h7 : P 7) : ∀ j, j < 8 → P j := by
  intro j hj
  have h : j = 0 ∨ j = 1 ∨ j = 2 ∨ j = 3 ∨ j = 4 ∨ j = 5 ∨ j = 6 ∨ j = 7 := by omega
  rcases h with rfl | rfl | rfl | rfl | rfl | rfl | rfl | rfl <;> assumption
/-- one block -/
theorem block_eq (st sc ro bl row : Nat → Int32) (x : H2) (n whl k0 : Nat) (hz : ∀ j, j < 8 → x.1 j = zx (st j)) (hb : ∀ p, p < 64 → bl p &&& 255 = bsel row n whl (k0 + p)) : ∀ j, j < 8 → (hbF x row n whl k0).1 j = zx (addS st (roF st (spF bl sc) ro) 8 j) := by
  rw [hbF_eq]
  show ∀ j, j < 8 → hfin x.1 (rs (r80 x.1) (wF row n whl k0 x.2) 64) j = _
  have e0 : r80 x.1 = r80 (zf (va_cpy st ro 0 0 8)) := by
    show (x.1 0, x.1 1, x.1 2, x.1 3, x.1 4, x.1 5, x.1 6, x.1 7) = _
    rw [hz 0 (by decide), hz 1 (by decide), hz 2 (by decide), hz 3 (by decide), hz 4 (by decide), hz 5 (by decide), hz 6 (by decide), hz 7 (by decide)]
    rfl
  have e1 : rs (r80 x.1) (wF row n whl k0 x.2) 64 = r80 (zf (roF st (spF bl sc) ro)) := by
    rw [e0]
    exact rs_eq (va_cpy st ro 0 0 8) (spF bl sc) _ (wF_eq row bl sc n whl k0 x.2 hb) 64 (by decide)
  rw [e1]
  generalize roF st (spF bl sc) ro = r
  have key : ∀ j, j < 8 → (x.1 j + zx (r j)) &&& 4294967295 = zx (st j + r j) := by
    intro j hj
    rw [hz j hj, zx_lo, lo_add, lo_zx, lo_zx]
  apply l8
  · exact key 0 (by decide)
  · exact key 1 (by decide)
  · exact key 2 (by decide)
  · exact key 3 (by decide)
  · exact key 4 (by decide)
  · exact key 5 (by decide)
  · exact key 6 (by decide)
  · exact key 7 (by decide)
