/-! Numbers out of digits. -/
def vN (f : Nat → Nat) : Nat → Nat
  | 0 => 0
  | n + 1 => vN f n + f n * 256 ^ n
def uN (f : Nat → Nat) (k x : Nat) : Nat → Nat := fun j => if j = k then x else f j
theorem uN_at (f : Nat → Nat) (k x : Nat) : uN f k x k = x := if_pos rfl
theorem uN_ne {f : Nat → Nat} {k x j : Nat} (h : j ≠ k) : uN f k x j = f j := if_neg h
theorem vN_congr {f g : Nat → Nat} : ∀ n, (∀ k, k < n → f k = g k) → vN f n = vN g n
  | 0, _ => rfl
  | n + 1, h => by
    show vN f n + f n * 256 ^ n = vN g n + g n * 256 ^ n
    rw [vN_congr n (fun k hk => h k (by omega)), h n (by omega)]
theorem vN_up (f : Nat → Nat) (k x : Nat) : ∀ n, k < n → vN (uN f k x) n + f k * 256 ^ k = vN f n + x * 256 ^ k
  | 0, h => by omega
  | n + 1, h => by
    show vN (uN f k x) n + uN f k x n * 256 ^ n + f k * 256 ^ k = vN f n + f n * 256 ^ n + x * 256 ^ k
    by_cases e : k = n
    · subst e
      rw [uN_at, vN_congr (g := f) k (fun j hj => uN_ne (by omega))]
      omega
    · rw [uN_ne (show n ≠ k by omega)]
      have := vN_up f k x n (by omega)
      omega
theorem vN_lt {f : Nat → Nat} : ∀ n, (∀ k, k < n → f k < 256) → vN f n < 256 ^ n
  | 0, _ => by show 0 < 1; omega
  | n + 1, h => by
    have h1 := vN_lt n (fun k hk => h k (by omega))
    have h2 := h n (by omega)
    show vN f n + f n * 256 ^ n < 256 ^ (n + 1)
    have h3 : f n * 256 ^ n ≤ 255 * 256 ^ n := Nat.mul_le_mul_right _ (by omega)
    rw [Nat.pow_succ]
    omega
theorem vN_div {f : Nat → Nat} (k : Nat) (h : ∀ j, j < k → f j < 256) : ∀ n, k ≤ n → ∃ r, vN f n = vN f k + r * 256 ^ k
  | 0, hk => ⟨0, by rw [show k = 0 by omega]; omega⟩
  | n + 1, hk => by
    by_cases e : k = n + 1
    · exact ⟨0, by rw [e]; omega⟩
    · obtain ⟨r, hr⟩ := vN_div k h n (by omega)
      refine ⟨r + f n * 256 ^ (n - k), ?_⟩
      show vN f n + f n * 256 ^ n = _
      rw [hr, Nat.add_mul, Nat.mul_assoc, ← Nat.pow_add, show n - k + k = n by omega, Nat.add_assoc]
theorem vN_mod {f : Nat → Nat} (k n : Nat) (h : ∀ j, j < k → f j < 256) (hk : k ≤ n) : vN f n % 256 ^ k = vN f k := by
  obtain ⟨r, hr⟩ := vN_div k h n hk
  rw [hr, Nat.add_mul_mod_self_right, Nat.mod_eq_of_lt (vN_lt k h)]
/-- the digits below 256 are those of the number -/
theorem vN_digit {f : Nat → Nat} (k n : Nat) (h : ∀ j, j < k + 1 → f j < 256) (hk : k < n) : f k = vN f n / 256 ^ k % 256 := by
  have h1 := vN_mod (k + 1) n h (by omega)
  have h2 : vN f (k + 1) = vN f k + f k * 256 ^ k := rfl
  have h3 : vN f n % 256 ^ (k + 1) / 256 ^ k = vN f n / 256 ^ k % 256 := by
    rw [Nat.pow_succ, Nat.mod_mul_right_div_self]
  rw [← h3, h1, h2, Nat.add_mul_div_right _ _ (Nat.pow_pos (by decide)), Nat.div_eq_of_lt (vN_lt k (fun j hj => h j (by omega))), Nat.zero_add]
theorem vN_digits (X : Nat) : ∀ n, vN (fun k => X / 256 ^ k % 256) n = X % 256 ^ n
  | 0 => by show 0 = X % 1; omega
  | n + 1 => by
    show vN (fun k => X / 256 ^ k % 256) n + (X / 256 ^ n % 256) * 256 ^ n = _
    rw [vN_digits X n, Nat.pow_succ, Nat.mod_mul, Nat.mul_comm (256 ^ n)]
theorem vN_add (f g : Nat → Nat) (c : Nat) : ∀ n, vN (fun k => f k + c * g k) n = vN f n + c * vN g n
  | 0 => by show 0 = 0 + c * 0; omega
  | n + 1 => by
    show vN (fun k => f k + c * g k) n + (f n + c * g n) * 256 ^ n = vN f n + f n * 256 ^ n + c * (vN g n + g n * 256 ^ n)
    rw [vN_add f g c n, Nat.add_mul, Nat.mul_add, Nat.mul_assoc]
    omega
theorem vN_zero {f : Nat → Nat} (k : Nat) : ∀ n, k ≤ n → (∀ j, k ≤ j → j < n → f j = 0) → vN f n = vN f k
  | 0, h, _ => by rw [show k = 0 by omega]
  | n + 1, h, hz => by
    by_cases e : k = n + 1
    · rw [e]
    · show vN f n + f n * 256 ^ n = _
      rw [hz n (by omega) (by omega), vN_zero k n (by omega) (fun j h1 h2 => hz j h1 (by omega))]
      omega
/-- ints that are numbers -/
def rp (f : Nat → Int32) (F : Nat → Nat) (n : Nat) : Prop := ∀ k, k < n → f k = nI (F k)
theorem rp.up {f : Nat → Int32} {F : Nat → Nat} {n k : Nat} {x : Int32} {X : Nat} (h : rp f F n) (e : x = nI X) : rp (upd f k x) (uN F k X) n := by
  intro j hj
  by_cases c : j = k
  · subst c; rw [upd_at, uN_at, e]
  · rw [upd_ne c, uN_ne c, h j hj]
/-- the byte's number -/
def bN (x : Int32) : Nat := x.toBitVec.toNat % 256
theorem bN_lt (x : Int32) : bN x < 256 := Nat.mod_lt _ (by decide)
theorem bN_eq (x : Int32) : x &&& 255 = nI (bN x) := pk_and x 8 (by decide)
theorem bN_sB (x : Int32) : bN (sB x) = bN x := by
  have h := sB_255 x
  rw [bN_eq, bN_eq] at h
  exact (nI_eq (by have := bN_lt (sB x); omega) (by have := bN_lt x; omega)).mp h
theorem bN_nI {n : Nat} (h : n < 2 ^ 32) : bN (nI n) = n % 256 := by unfold bN; rw [pk_tn h]
/-- a byte by its number -/
theorem sB_bN {x y : Int32} (h : bN x = bN y) : sB x = sB y := by
  apply sB_eq
  apply BitVec.eq_of_toNat_eq
  rw [BitVec.toNat_setWidth, BitVec.toNat_setWidth]
  exact h
theorem nI_or {a b k : Nat} (ha : a < 2 ^ k) (hs : a + b * 2 ^ k < 2 ^ 32) : nI a ||| nI (b * 2 ^ k) = nI (a + b * 2 ^ k) := by
  apply Int32.toBitVec_inj.mp
  apply BitVec.eq_of_toNat_eq
  rw [Int32.toBitVec_or, BitVec.toNat_or, pk_tn (by omega), pk_tn (by omega), pk_tn hs, Nat.or_comm, Nat.mul_comm b, ← Nat.two_pow_add_eq_or_of_lt ha, Nat.add_comm]
theorem rl_num (b : Nat → Int32) (k : Nat) : rl b k = nI (bN (b k) + bN (b (k + 1)) * 256 + bN (b (k + 2)) * 65536 + bN (b (k + 3)) * 16777216) := by
  have h0 := bN_lt (b k)
  have h1 := bN_lt (b (k + 1))
  have h2 := bN_lt (b (k + 2))
  have h3 := bN_lt (b (k + 3))
  unfold rl
  rw [bN_eq, bN_eq, bN_eq, bN_eq]
  have s1 : shl (nI (bN (b (k + 1)))) 8 = nI (bN (b (k + 1)) * 2 ^ 8) := pk_shlN _ 8 (by decide) (by omega)
  have s2 : shl (nI (bN (b (k + 2)))) 16 = nI (bN (b (k + 2)) * 2 ^ 16) := pk_shlN _ 16 (by decide) (by omega)
  have s3 : shl (nI (bN (b (k + 3)))) 24 = nI (bN (b (k + 3)) * 2 ^ 24) := pk_shlN _ 24 (by decide) (by omega)
  rw [s1, s2, s3, nI_or (by omega) (by omega), nI_or (by omega) (by omega), nI_or (by omega) (by omega)]
theorem zx_nI {n : Nat} (h : n < 2 ^ 32) : zx (nI n) = lN n := by
  apply Int64.toBitVec_inj.mp
  apply BitVec.eq_of_toNat_eq
  rw [zx_bv, BitVec.toNat_setWidth, pk_tn h]
  show _ = (BitVec.ofNat 64 n).toNat
  rw [BitVec.toNat_ofNat]
theorem lN_tn {n : Nat} (h : n < 2 ^ 64) : (lN n).toBitVec.toNat = n := by
  show (BitVec.ofNat 64 n).toNat = n
  rw [BitVec.toNat_ofNat, Nat.mod_eq_of_lt h]
theorem lN_inj {a b : Nat} (ha : a < 2 ^ 64) (hb : b < 2 ^ 64) (h : lN a = lN b) : a = b := by rw [← lN_tn ha, ← lN_tn hb, h]
theorem lN_ushr {n k : Nat} (h : n < 2 ^ 64) (hk : k < 64) : lushr (lN n) (nI k) = lN (n / 2 ^ k) := by
  apply Int64.toBitVec_inj.mp
  apply BitVec.eq_of_toNat_eq
  rw [lushr_bv _ k hk, BitVec.toNat_ushiftRight, lN_tn h, lN_tn (Nat.lt_of_le_of_lt (Nat.div_le_self _ _) h), Nat.shiftRight_eq_div_pow]
theorem lN_shl (n : Nat) {k : Nat} (hk : k < 64) : lshl (lN n) (nI k) = lN (n * 2 ^ k) := by
  apply Int64.toBitVec_inj.mp
  apply BitVec.eq_of_toNat_eq
  rw [lshl_bv _ k hk, BitVec.toNat_shiftLeft]
  show (BitVec.ofNat 64 n).toNat <<< k % 2 ^ 64 = (BitVec.ofNat 64 (n * 2 ^ k)).toNat
  rw [BitVec.toNat_ofNat, BitVec.toNat_ofNat, Nat.shiftLeft_eq, Nat.mod_mul_mod]
theorem lN_m26 {n : Nat} (h : n < 2 ^ 64) : lN n &&& 67108863 = lN (n % 67108864) := by
  apply Int64.toBitVec_inj.mp
  apply BitVec.eq_of_toNat_eq
  rw [Int64.toBitVec_and, BitVec.toNat_and, lN_tn h, lN_tn (by omega)]
  show n &&& 67108863 = _
  rw [show (67108863 : Nat) = 2 ^ 26 - 1 from rfl, Nat.and_two_pow_sub_one_eq_mod]
theorem lN_m32 {n : Nat} (h : n < 2 ^ 64) : lN n &&& 4294967295 = lN (n % 4294967296) := by
  apply Int64.toBitVec_inj.mp
  apply BitVec.eq_of_toNat_eq
  rw [Int64.toBitVec_and, BitVec.toNat_and, lN_tn h, lN_tn (by omega)]
  show n &&& 4294967295 = _
  rw [show (4294967295 : Nat) = 2 ^ 32 - 1 from rfl, Nat.and_two_pow_sub_one_eq_mod]
theorem lN_or {a b k : Nat} (ha : a < 2 ^ k) (hs : a + b * 2 ^ k < 2 ^ 64) : lN a ||| lN (b * 2 ^ k) = lN (a + b * 2 ^ k) := by
  apply Int64.toBitVec_inj.mp
  apply BitVec.eq_of_toNat_eq
  rw [Int64.toBitVec_or, BitVec.toNat_or, lN_tn (by omega), lN_tn (by omega), lN_tn hs, Nat.or_comm, Nat.mul_comm b, ← Nat.two_pow_add_eq_or_of_lt ha, Nat.add_comm]
