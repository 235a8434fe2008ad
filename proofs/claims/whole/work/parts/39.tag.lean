/-! The 16 bytes of the sum: the class's and the reference's. -/
theorem wl_at (f : Nat → Int32) (k : Nat) (x : Int32) (j : Nat) : wl f k x j = if k ≤ j ∧ j < k + 4 then sB (ushr x (nI (8 * (j - k)))) else f j := by
  unfold wl
  by_cases h3 : j = k + 3
  · subst h3
    rw [upd_at, if_pos (by omega), show k + 3 - k = 3 by omega]
    rfl
  · rw [upd_ne h3]
    by_cases h2 : j = k + 2
    · subst h2
      rw [upd_at, if_pos (by omega), show k + 2 - k = 2 by omega]
      rfl
    · rw [upd_ne h2]
      by_cases h1 : j = k + 1
      · subst h1
        rw [upd_at, if_pos (by omega), show k + 1 - k = 1 by omega]
        rfl
      · rw [upd_ne h1]
        by_cases h0 : j = k
        · subst h0
          rw [upd_at, if_pos (by omega), Nat.sub_self]
          apply sB_eq
          rw [ushr_bv x (8 * 0) (by decide)]
          rfl
        · rw [upd_ne h0, if_neg (by omega)]
theorem l4 {P : Nat → Prop} (h0 : P 0) (h1 : P 1) (h2 : P 2) (h3 : P 3) : ∀ j, j < 4 → P j := by
  intro j hj
  have h : j = 0 ∨ j = 1 ∨ j = 2 ∨ j = 3 := by omega
  rcases h with rfl | rfl | rfl | rfl <;> assumption
def w32 (V i : Nat) : Nat := V / 4294967296 ^ i % 4294967296
theorem w32_lt (V i : Nat) : w32 V i < 4294967296 := Nat.mod_lt _ (by decide)
theorem words_num (t wo : Nat → Int64) (F : Nat → Nat) (ht : okT t F) (hF : ∀ i, i < 5 → F i < 67108864) : ∀ i, i < 4 → words4 t wo i &&& 4294967295 = lN (w32 (V5 F) i) := by
  have f0 := hF 0 (by decide)
  have f1 := hF 1 (by decide)
  have f2 := hF 2 (by decide)
  have f3 := hF 3 (by decide)
  have f4 := hF 4 (by decide)
  have hV : V5 F = F 0 + F 1 * 67108864 + F 2 * 4503599627370496 + F 3 * 302231454903657293676544 + F 4 * 20282409603651670423947251286016 := rfl
  apply l4
  · show (t 0 ||| lshl (t 1) (nI 26)) &&& 4294967295 = lN (V5 F / 1 % 4294967296)
    rw [ht 0 (by decide), ht 1 (by decide), lN_shl _ (by decide), lN_or (by omega) (by omega), lN_m32 (by omega)]
    congr 1
    omega
  · show (lushr (t 1) (nI 6) ||| lshl (t 2) (nI 20)) &&& 4294967295 = lN (V5 F / 4294967296 % 4294967296)
    rw [ht 1 (by decide), ht 2 (by decide), lN_ushr (by omega) (by decide), lN_shl _ (by decide), lN_or (by omega) (by omega), lN_m32 (by omega)]
    congr 1
    omega
  · show (lushr (t 2) (nI 12) ||| lshl (t 3) (nI 14)) &&& 4294967295 = lN (V5 F / 18446744073709551616 % 4294967296)
    rw [ht 2 (by decide), ht 3 (by decide), lN_ushr (by omega) (by decide), lN_shl _ (by decide), lN_or (by omega) (by omega), lN_m32 (by omega)]
    congr 1
    omega
  · show (lushr (t 3) (nI 18) ||| lshl (t 4) (nI 8)) &&& 4294967295 = lN (V5 F / 79228162514264337593543950336 % 4294967296)
    rw [ht 3 (by decide), ht 4 (by decide), lN_ushr (by omega) (by decide), lN_shl _ (by decide), lN_or (by omega) (by omega), lN_m32 (by omega)]
    congr 1
    omega
def oN (w L : Nat → Nat) : Nat → Nat
  | 0 => 0
  | i + 1 => (oN w L i + (w i + L i)) / 4294967296
theorem oN_lt (w L : Nat → Nat) (hw : ∀ i, w i < 4294967296) (hL : ∀ i, L i < 4294967296) : ∀ n, oN w L n ≤ 1
  | 0 => by show 0 ≤ 1; omega
  | n + 1 => by
    have h := oN_lt w L hw hL n
    have h1 := hw n
    have h2 := hL n
    show (oN w L n + (w n + L n)) / 4294967296 ≤ 1
    omega
theorem foS_num (W : Nat → Int64) (la row : Nat → Int32) (k : Nat) (w L : Nat → Nat) (hw : ∀ i, w i < 4294967296) (hL : ∀ i, L i < 4294967296) (hW : ∀ i, i < 4 → W i &&& 4294967295 = lN (w i)) (hla : ∀ i, i < 4 → la i = nI (L i)) : ∀ n, n ≤ 4 → (foS W la row k n).1 = lN (oN w L n) ∧ ∀ j, (foS W la row k n).2 j = if k ≤ j ∧ j < k + 4 * n then sB (ushr (nI (oN w L ((j - k) / 4) + (w ((j - k) / 4) + L ((j - k) / 4)))) (nI (8 * ((j - k) % 4)))) else row j
  | 0, _ => ⟨rfl, fun j => by rw [if_neg (by omega)]; rfl⟩
  | n + 1, hn => by
    obtain ⟨h1, h2⟩ := foS_num W la row k w L hw hL hW hla n (by omega)
    have b1 := oN_lt w L hw hL n
    have b2 := hw n
    have b3 := hL n
    have ev : (foS W la row k n).1 + ((W n &&& 4294967295) + ((la n).toInt64 &&& 4294967295)) = lN (oN w L n + (w n + L n)) := by
      rw [h1, hW n (by omega), hla n (by omega)]
      show lN (oN w L n) + (lN (w n) + zx (nI (L n))) = _
      rw [zx_nI (by omega), lN_add, lN_add]
    refine ⟨?_, fun j => ?_⟩
    · show lushr ((foS W la row k n).1 + ((W n &&& 4294967295) + ((la n).toInt64 &&& 4294967295))) (nI 32) = _
      rw [ev, lN_ushr (by omega) (by decide)]
      rfl
    · show wl (foS W la row k n).2 (k + 4 * n) ((foS W la row k n).1 + ((W n &&& 4294967295) + ((la n).toInt64 &&& 4294967295))).toInt32 j = _
      rw [ev, lN_i, wl_at, h2 j]
      by_cases e : k + 4 * n ≤ j ∧ j < k + 4 * n + 4
      · rw [if_pos e, if_pos (by omega), show (j - k) / 4 = n by omega, show j - (k + 4 * n) = (j - k) % 4 by omega]
      · rw [if_neg e]
        by_cases e2 : k ≤ j ∧ j < k + 4 * n
        · rw [if_pos e2, if_pos (by omega)]
        · rw [if_neg e2, if_neg (by omega)]
theorem nI_tnm (x : Nat) : (nI x).toBitVec.toNat = x % 4294967296 := by
  show (BitVec.ofNat 32 x).toNat = _
  rw [BitVec.toNat_ofNat]
theorem bN_ushr (x m : Nat) (hm : m < 4) : bN (ushr (nI x) (nI (8 * m))) = x % 4294967296 / 256 ^ m % 256 := by
  unfold bN
  rw [ushr_bv _ _ (by omega), BitVec.toNat_ushiftRight, nI_tnm, Nat.shiftRight_eq_div_pow, Nat.pow_mul]
/-- sums of words, carried -/
theorem ovN (V : Nat) (L : Nat → Nat) (hL : ∀ i, L i < 4294967296) : ∀ i, i < 4 → (oN (w32 V) L i + (w32 V i + L i)) % 4294967296 = (V + (L 0 + L 1 * 4294967296 + L 2 * 18446744073709551616 + L 3 * 79228162514264337593543950336)) / 4294967296 ^ i % 4294967296 := by
  have h0 : w32 V 0 = V / 1 % 4294967296 := rfl
  have h1 : w32 V 1 = V / 4294967296 % 4294967296 := rfl
  have h2 : w32 V 2 = V / 18446744073709551616 % 4294967296 := rfl
  have h3 : w32 V 3 = V / 79228162514264337593543950336 % 4294967296 := rfl
  have hv : V = w32 V 0 + w32 V 1 * 4294967296 + w32 V 2 * 18446744073709551616 + w32 V 3 * 79228162514264337593543950336 + V / 340282366920938463463374607431768211456 * 340282366920938463463374607431768211456 := by omega
  have o1 : oN (w32 V) L 1 = (0 + (w32 V 0 + L 0)) / 4294967296 := rfl
  have o2 : oN (w32 V) L 2 = (oN (w32 V) L 1 + (w32 V 1 + L 1)) / 4294967296 := rfl
  have o3 : oN (w32 V) L 3 = (oN (w32 V) L 2 + (w32 V 2 + L 2)) / 4294967296 := rfl
  suffices key : (0 + (w32 V 0 + L 0)) % 4294967296 = (V + (L 0 + L 1 * 4294967296 + L 2 * 18446744073709551616 + L 3 * 79228162514264337593543950336)) / 1 % 4294967296 ∧ (oN (w32 V) L 1 + (w32 V 1 + L 1)) % 4294967296 = (V + (L 0 + L 1 * 4294967296 + L 2 * 18446744073709551616 + L 3 * 79228162514264337593543950336)) / 4294967296 % 4294967296 ∧ (oN (w32 V) L 2 + (w32 V 2 + L 2)) % 4294967296 = (V + (L 0 + L 1 * 4294967296 + L 2 * 18446744073709551616 + L 3 * 79228162514264337593543950336)) / 18446744073709551616 % 4294967296 ∧ (oN (w32 V) L 3 + (w32 V 3 + L 3)) % 4294967296 = (V + (L 0 + L 1 * 4294967296 + L 2 * 18446744073709551616 + L 3 * 79228162514264337593543950336)) / 79228162514264337593543950336 % 4294967296 by
    exact l4 key.1 key.2.1 key.2.2.1 key.2.2.2
  generalize w32 V 0 = a0 at *
  generalize w32 V 1 = a1 at *
  generalize w32 V 2 = a2 at *
  generalize w32 V 3 = a3 at *
  generalize V / 340282366920938463463374607431768211456 = tp at *
  have l0 := hL 0
  have l1 := hL 1
  have l2 := hL 2
  have l3 := hL 3
  have n0 : V + (L 0 + L 1 * 4294967296 + L 2 * 18446744073709551616 + L 3 * 79228162514264337593543950336) = (a0 + L 0) + 4294967296 * ((a1 + L 1) + 4294967296 * ((a2 + L 2) + 4294967296 * ((a3 + L 3) + 4294967296 * tp))) := by omega
  rw [n0]
  generalize oN (w32 V) L 1 = x1 at *
  generalize oN (w32 V) L 2 = x2 at *
  generalize oN (w32 V) L 3 = x3 at *
  have q1 : ((a0 + L 0) + 4294967296 * ((a1 + L 1) + 4294967296 * ((a2 + L 2) + 4294967296 * ((a3 + L 3) + 4294967296 * tp)))) / 4294967296 = x1 + ((a1 + L 1) + 4294967296 * ((a2 + L 2) + 4294967296 * ((a3 + L 3) + 4294967296 * tp))) := by omega
  have q2 : (x1 + ((a1 + L 1) + 4294967296 * ((a2 + L 2) + 4294967296 * ((a3 + L 3) + 4294967296 * tp)))) / 4294967296 = x2 + ((a2 + L 2) + 4294967296 * ((a3 + L 3) + 4294967296 * tp)) := by omega
  have q3 : (x2 + ((a2 + L 2) + 4294967296 * ((a3 + L 3) + 4294967296 * tp))) / 4294967296 = x3 + ((a3 + L 3) + 4294967296 * tp) := by omega
  generalize hN : (a0 + L 0) + 4294967296 * ((a1 + L 1) + 4294967296 * ((a2 + L 2) + 4294967296 * ((a3 + L 3) + 4294967296 * tp))) = NN at *
  have d2 : NN / 18446744073709551616 = NN / 4294967296 / 4294967296 := by rw [Nat.div_div_eq_div_mul]
  have d3 : NN / 79228162514264337593543950336 = NN / 4294967296 / 4294967296 / 4294967296 := by rw [Nat.div_div_eq_div_mul, Nat.div_div_eq_div_mul]
  refine ⟨?_, ?_, ?_, ?_⟩
  · omega
  · rw [q1]; omega
  · rw [d2, q1, q2]; omega
  · rw [d3, q1, q2, q3]; omega
def LSm (L : Nat → Nat) : Nat := L 0 + L 1 * 4294967296 + L 2 * 18446744073709551616 + L 3 * 79228162514264337593543950336
/-- the class's 16 bytes -/
theorem tagC (t wo : Nat → Int64) (la row : Nat → Int32) (k : Nat) (F L : Nat → Nat) (ht : okT t F) (hF : ∀ i, i < 5 → F i < 67108864) (hL : ∀ i, L i < 4294967296) (hla : ∀ i, i < 4 → la i = nI (L i)) : ∀ j, (foS (words4 t wo) la row k 4).2 j = if k ≤ j ∧ j < k + 16 then sB (nI ((V5 F + LSm L) / 256 ^ (j - k) % 256)) else row j := by
  intro j
  obtain ⟨-, h⟩ := foS_num (words4 t wo) la row k (w32 (V5 F)) L (w32_lt _) hL (words_num t wo F ht hF) hla 4 (by decide)
  rw [h j]
  by_cases e : k ≤ j ∧ j < k + 16
  · rw [if_pos (show k ≤ j ∧ j < k + 4 * 4 from e), if_pos e]
    apply sB_bN
    have hi : (j - k) / 4 < 4 := by omega
    rw [bN_ushr _ _ (by omega), ovN (V5 F) L hL _ hi, bN_nI (by omega)]
    have e1 : 256 ^ (j - k) = 4294967296 ^ ((j - k) / 4) * 256 ^ ((j - k) % 4) := by
      rw [show (4294967296 : Nat) = 256 ^ 4 from rfl, ← Nat.pow_mul, ← Nat.pow_add]
      congr 1
      omega
    rw [e1, ← Nat.div_div_eq_div_mul]
    show (V5 F + LSm L) / 4294967296 ^ ((j - k) / 4) % 4294967296 / 256 ^ ((j - k) % 4) % 256 = _
    generalize (V5 F + LSm L) / 4294967296 ^ ((j - k) / 4) = A
    have hm : (j - k) % 4 < 4 := by omega
    generalize (j - k) % 4 = m at hm
    have hc : m = 0 ∨ m = 1 ∨ m = 2 ∨ m = 3 := by omega
    rcases hc with rfl | rfl | rfl | rfl
    · show A % 4294967296 / 1 % 256 = A / 1 % 256 % 256; omega
    · show A % 4294967296 / 256 % 256 = A / 256 % 256 % 256; omega
    · show A % 4294967296 / 65536 % 256 = A / 65536 % 256 % 256; omega
    · show A % 4294967296 / 16777216 % 256 = A / 16777216 % 256 % 256; omega
  · rw [if_neg (show ¬ (k ≤ j ∧ j < k + 4 * 4) from e), if_neg e]
