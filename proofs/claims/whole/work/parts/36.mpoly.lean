/-! The reference's Poly1305 in numbers. -/
def mcN (P : Nat → Nat) (k : Nat) : Nat → Nat := uN (uN P (k + 1) (P (k + 1) + P k / 256)) k (P k % 256)
def mcarN (P : Nat → Nat) : Nat → Nat → Nat
  | 0 => P
  | k + 1 => mcN (mcarN P k) k
theorem mc1_rp {q : Nat → Int32} {Q : Nat → Nat} {n k : Nat} (h : rp q Q n) (hk : k + 1 < n) (hb : Q k < 2 ^ 31) : rp (mc1 q k) (mcN Q k) n := by
  have e1 : q (k + 1) + shr (q k) 8 = nI (Q (k + 1) + Q k / 256) := by
    rw [h k (by omega), h (k + 1) hk]
    have : shr (nI (Q k)) 8 = nI (Q k / 2 ^ 8) := pk_shrN hb _ 8 (by decide)
    rw [this, nI_add]
  have e2 : (upd q (k + 1) (q (k + 1) + shr (q k) 8)) k &&& 255 = nI (Q k % 256) := by
    rw [upd_ne (by omega), h k (by omega)]
    exact pk_andN (by omega) 8 (by decide)
  exact (h.up e1).up e2
theorem mcarN_hi (P : Nat → Nat) : ∀ i j, i < j → mcarN P i j = P j
  | 0, _, _ => rfl
  | i + 1, j, h => by
    show mcN (mcarN P i) i j = _
    unfold mcN
    rw [uN_ne (by omega), uN_ne (by omega), mcarN_hi P i j (by omega)]
theorem mcarN_lo (P : Nat → Nat) : ∀ i j, j < i → mcarN P i j < 256
  | 0, _, h => by omega
  | i + 1, j, h => by
    show mcN (mcarN P i) i j < 256
    unfold mcN
    by_cases e : j = i
    · subst e; rw [uN_at]; omega
    · rw [uN_ne e, uN_ne (by omega)]; exact mcarN_lo P i j (by omega)
theorem mcarN_cur (P : Nat → Nat) (B n : Nat) (hB : ∀ j, j < n → P j ≤ B) : ∀ i, i < n → mcarN P i i ≤ 2 * B
  | 0, h => by have := hB 0 h; show P 0 ≤ _; omega
  | i + 1, h => by
    show mcN (mcarN P i) i (i + 1) ≤ _
    unfold mcN
    rw [uN_ne (by omega), uN_at, mcarN_hi P i (i + 1) (by omega)]
    have h1 := mcarN_cur P B n hB i (by omega)
    have h2 := hB (i + 1) h
    omega
theorem dm256 (a E : Nat) : a * E = a / 256 * (E * 256) + a % 256 * E := by
  have h := Nat.div_add_mod a 256
  have e : a / 256 * (E * 256) = 256 * (a / 256) * E := by rw [Nat.mul_comm E 256, ← Nat.mul_assoc, Nat.mul_comm (a / 256) 256]
  rw [e, ← Nat.add_mul, h]
theorem mcarN_val (P : Nat → Nat) (n : Nat) : ∀ i, i < n → vN (mcarN P i) n = vN P n
  | 0, _ => rfl
  | i + 1, h => by
    have ih := mcarN_val P n i (by omega)
    show vN (mcN (mcarN P i) i) n = _
    generalize mcarN P i = Q at ih
    unfold mcN
    have h1 := vN_up Q (i + 1) (Q (i + 1) + Q i / 256) n h
    have h2 := vN_up (uN Q (i + 1) (Q (i + 1) + Q i / 256)) i (Q i % 256) n (by omega)
    rw [uN_ne (show i ≠ i + 1 by omega)] at h2
    have h3 := dm256 (Q i) (256 ^ i)
    rw [Nat.pow_succ, Nat.add_mul] at h1
    omega
theorem mcar_rp {p : Nat → Int32} {P : Nat → Nat} {n : Nat} (h : rp p P n) (hB : ∀ j, j < n → P j ≤ 2 ^ 29) : ∀ i, i < n → rp (mcar p i) (mcarN P i) n
  | 0, _ => h
  | i + 1, hi => mc1_rp (mcar_rp h hB i (by omega)) hi (by have := mcarN_cur P (2 ^ 29) n hB i (by omega); omega)
theorem abv_at (p a : Nat → Int32) : ∀ n k, abv p a n k = if k < n then shr (p (16 + k)) 2 ||| (shl (p (17 + k)) 6 &&& 255) else a k
  | 0, k => by rw [if_neg (by omega)]; rfl
  | n + 1, k => by
    show upd (abv p a n) n (shr (p (16 + n)) 2 ||| (shl (p (17 + n)) 6 &&& 255)) k = _
    by_cases h : k = n
    · subst h; rw [upd_at, if_pos (by omega)]
    · rw [upd_ne h, abv_at p a n k]
      by_cases h2 : k < n
      · rw [if_pos h2, if_pos (by omega)]
      · rw [if_neg h2, if_neg (by omega)]
theorem zrF_at (p : Nat → Int32) (s : Nat) : ∀ n k, zrF p s n k = if s ≤ k ∧ k < s + n then 0 else p k
  | 0, k => by rw [if_neg (by omega)]; rfl
  | n + 1, k => by
    show upd (zrF p s n) (s + n) 0 k = _
    by_cases h : k = s + n
    · subst h; rw [upd_at, if_pos (by omega)]
    · rw [upd_ne h, zrF_at p s n k]
      by_cases h2 : s ≤ k ∧ k < s + n
      · rw [if_pos h2, if_pos (by omega)]
      · rw [if_neg h2, if_neg (by omega)]
theorem zr0_at (p : Nat → Int32) : ∀ n k, zr0 p n k = if k < n then 0 else p k
  | 0, k => by rw [if_neg (by omega)]; rfl
  | n + 1, k => by
    show upd (zr0 p n) n 0 k = _
    by_cases h : k = n
    · subst h; rw [upd_at, if_pos (by omega)]
    · rw [upd_ne h, zr0_at p n k]
      by_cases h2 : k < n
      · rw [if_pos h2, if_pos (by omega)]
      · rw [if_neg h2, if_neg (by omega)]
theorem fvF_at (p a : Nat → Int32) : ∀ n k, fvF p a n k = if k < n then p k + 5 * a k else p k
  | 0, k => by rw [if_neg (by omega)]; rfl
  | n + 1, k => by
    show upd (fvF p a n) n (fvF p a n n + 5 * a n) k = _
    by_cases h : k = n
    · subst h; rw [upd_at, if_pos (by omega), fvF_at p a k k, if_neg (by omega)]
    · rw [upd_ne h, fvF_at p a n k]
      by_cases h2 : k < n
      · rw [if_pos h2, if_pos (by omega)]
      · rw [if_neg h2, if_neg (by omega)]
def seV (V : Nat) : Nat := V % 2 ^ 130 + 5 * (V / 2 ^ 130)
def PRM : Nat := 2 ^ 130 - 5
theorem seV_mod (V : Nat) : seV V % PRM = V % PRM := by
  have h := Nat.div_add_mod V (2 ^ 130)
  have e : V = seV V + V / 2 ^ 130 * PRM := by
    unfold seV PRM
    have e1 : V / 2 ^ 130 * (2 ^ 130 - 5) = V / 2 ^ 130 * 2 ^ 130 - V / 2 ^ 130 * 5 := by rw [Nat.mul_sub]
    rw [e1]
    have e2 : 2 ^ 130 * (V / 2 ^ 130) = V / 2 ^ 130 * 2 ^ 130 := Nat.mul_comm _ _
    omega
  conv => rhs; rw [e]
  rw [Nat.add_mul_mod_self_right]
theorem shr2_or (a b : Nat) (ha : a < 256) (hb : b < 256) : shr (nI a) 2 ||| (shl (nI b) 6 &&& 255) = nI (a / 4 + b % 4 * 64) := by
  have s1 : shr (nI a) 2 = nI (a / 2 ^ 2) := pk_shrN (by omega) _ 2 (by decide)
  have s2 : shl (nI b) 6 = nI (b * 2 ^ 6) := pk_shlN _ 6 (by decide) (by omega)
  have s3 : nI (b * 2 ^ 6) &&& 255 = nI (b * 2 ^ 6 % 2 ^ 8) := pk_andN (by omega) 8 (by decide)
  rw [s1, s2, s3, show b * 2 ^ 6 % 2 ^ 8 = b % 4 * 2 ^ 6 by omega]
  exact nI_or (k := 6) (by omega) (by omega)
theorem se_rp (x : PA) (P : Nat → Nat) (h : rp x.1 P 35) (hB : ∀ j, j < 35 → P j ≤ 2 ^ 29) (hV : vN P 35 < 2 ^ 274) : ∃ P' : Nat → Nat, rp (seF x).1 P' 35 ∧ (∀ j, j < 35 → P' j ≤ 2 ^ 29) ∧ vN P' 35 = seV (vN P 35) := by
  rw [seF_eq]
  show ∃ P' : Nat → Nat, rp (fvF (z3F x.1) (abv (mcar x.1 34) x.2 18) 18) P' 35 ∧ _ ∧ _
  have hr := mcar_rp h hB 34 (by decide)
  have hv := mcarN_val P 35 34 (by decide)
  have hlo := mcarN_lo P 34
  generalize mcarN P 34 = D at hr hv hlo
  generalize hVe : vN P 35 = V at hv hV ⊢
  have h34 : D 34 < 256 := by
    have : vN D 35 = vN D 34 + D 34 * 256 ^ 34 := rfl
    rw [this] at hv
    have h2 : D 34 * 256 ^ 34 < 256 * 256 ^ 34 := by omega
    exact Nat.lt_of_mul_lt_mul_right h2
  have hD : ∀ k, k < 35 → D k < 256 := fun k hk => by
    by_cases e : k = 34
    · rw [e]; exact h34
    · exact hlo k (by omega)
  have hdig : ∀ k, k < 35 → D k = V / 256 ^ k % 256 := fun k hk => by rw [← hv]; exact vN_digit k 35 (fun j hj => hD j (by omega)) hk
  let A : Nat → Nat := fun k => if k < 18 then V / 2 ^ 130 / 256 ^ k % 256 else 0
  let Lo : Nat → Nat := fun k => if k < 16 then D k else if k = 16 then D 16 % 4 else 0
  have hA : ∀ k, k < 18 → abv (mcar x.1 34) x.2 18 k = nI (A k) := by
    intro k hk
    rw [abv_at, if_pos hk, hr (16 + k) (by omega), hr (17 + k) (by omega), shr2_or _ _ (hD _ (by omega)) (hD _ (by omega))]
    show _ = nI (if k < 18 then _ else 0)
    rw [if_pos hk, hdig (16 + k) (by omega), hdig (17 + k) (by omega)]
    congr 1
    have e1 : V / 256 ^ (17 + k) = V / 256 ^ (16 + k) / 256 := by rw [Nat.div_div_eq_div_mul, ← Nat.pow_succ, show (16 + k).succ = 17 + k by omega]
    have e2 : V / 2 ^ 130 / 256 ^ k = V / 256 ^ (16 + k) / 4 := by
      rw [Nat.div_div_eq_div_mul, Nat.div_div_eq_div_mul, Nat.pow_add 256 16 k, Nat.mul_assoc, Nat.mul_comm (256 ^ k) 4, ← Nat.mul_assoc]
    rw [e1, e2]
    omega
  have hL : ∀ k, k < 35 → z3F x.1 k = nI (Lo k) := by
    intro k hk
    unfold z3F
    show _ = nI (if k < 16 then D k else if k = 16 then D 16 % 4 else 0)
    by_cases e : k = 16
    · subst e
      rw [upd_at, zrF_at, if_neg (by omega), hr 16 (by decide), if_neg (by omega), if_pos rfl]
      exact pk_andN (by have := hD 16 (by decide); omega) 2 (by decide)
    · rw [upd_ne e, zrF_at]
      by_cases e2 : k < 16
      · rw [if_neg (by omega), if_pos e2, hr k hk]
      · rw [if_pos (by omega), if_neg e2, if_neg e]; rfl
  have hA255 : ∀ k, A k < 256 := fun k => by show (if k < 18 then _ else 0) < 256; split <;> omega
  have hL255 : ∀ k, Lo k < 256 := fun k => by
    show (if k < 16 then D k else if k = 16 then D 16 % 4 else 0) < 256
    split
    · exact hD k (by omega)
    · split <;> omega
  refine ⟨fun k => Lo k + 5 * A k, ?_, fun j _ => by have := hA255 j; have := hL255 j; show Lo j + 5 * A j ≤ _; omega, ?_⟩
  · intro k hk
    rw [fvF_at, hL k hk]
    by_cases e : k < 18
    · rw [if_pos e, hA k e]
      show nI (Lo k) + nI 5 * nI (A k) = _
      rw [pk_mul, nI_add]
    · rw [if_neg e]
      have : A k = 0 := if_neg e
      show nI (Lo k) = nI (Lo k + 5 * A k)
      rw [this]
      rfl
  · rw [vN_add Lo A 5 35]
    have v1 : vN Lo 35 = V % 2 ^ 130 := by
      rw [vN_zero 17 35 (by decide) (fun j h1 h2 => by show (if j < 16 then D j else if j = 16 then D 16 % 4 else 0) = 0; rw [if_neg (by omega), if_neg (by omega)])]
      show vN Lo 16 + Lo 16 * 256 ^ 16 = _
      have e16 : Lo 16 = D 16 % 4 := rfl
      rw [vN_congr (g := D) 16 (fun k hk => if_pos hk), e16, ← vN_mod 16 35 (fun j hj => hD j (by omega)) (by decide), hv, hdig 16 (by decide)]
      have := Nat.mod_mul (x := V) (a := 256 ^ 16) (b := 4)
      rw [show (2 : Nat) ^ 130 = 256 ^ 16 * 4 from rfl, this, Nat.mul_comm (256 ^ 16) (V / 256 ^ 16 % 4)]
      congr 2
      omega
    have v2 : vN A 35 = V / 2 ^ 130 := by
      rw [vN_zero 18 35 (by decide) (fun j h1 h2 => if_neg (by omega)), vN_congr (g := fun k => V / 2 ^ 130 / 256 ^ k % 256) 18 (fun k hk => if_pos hk), vN_digits]
      apply Nat.mod_eq_of_lt
      omega
    rw [v1, v2]
    rfl
def rd (V : Nat) : Nat := seV (seV (seV V))
theorem rd_mod (V : Nat) : rd V % PRM = V % PRM := by unfold rd; rw [seV_mod, seV_mod, seV_mod]
theorem rd_lt (V : Nat) (h : V < 2 ^ 270) : rd V < 2 ^ 130 := by
  unfold rd seV
  omega
theorem stl_eq (x : PA) (P : Nat → Nat) (h : rp x.1 P 35) (hB : ∀ j, j < 35 → P j ≤ 2 ^ 29) (hV : vN P 35 < 2 ^ 270) : ∀ k, k < 34 → (stl x).1 k = nI (rd (vN P 35) / 256 ^ k % 256) := by
  obtain ⟨P1, r1, b1, v1⟩ := se_rp x P h hB (by omega)
  have l1 : vN P1 35 < 2 ^ 274 := by rw [v1]; unfold seV; omega
  obtain ⟨P2, r2, b2, v2⟩ := se_rp (seF x) P1 r1 b1 l1
  have l2 : vN P2 35 < 2 ^ 274 := by rw [v2, v1]; unfold seV; omega
  obtain ⟨P3, r3, b3, v3⟩ := se_rp (seF (seF x)) P2 r2 b2 l2
  intro k hk
  show mcar (seF (seF (seF x))).1 34 k = _
  rw [mcar_rp r3 b3 34 (by decide) k (by omega), vN_digit (f := mcarN P3 34) k 35 (fun j hj => mcarN_lo P3 34 j (by omega)) (by omega), mcarN_val P3 35 34 (by decide), v3, v2, v1]
  rfl
/-- a block's number: its bytes and the 1 behind them -/
def BV (g : Nat → Nat) (m : Nat) : Nat := vN (fun k => (if k < m then g k else 0) + 1 * (if k = m then 1 else 0)) 17
theorem BV_lt (g : Nat → Nat) (m : Nat) (h : ∀ k, g k < 256) : BV g m < 256 ^ 17 := by
  apply vN_lt
  intro k _
  show (if k < m then g k else 0) + 1 * (if k = m then 1 else 0) < 256
  have := h k
  by_cases e : k < m
  · rw [if_pos e, if_neg (by omega)]; omega
  · rw [if_neg e]; split <;> omega
theorem adT_at (s tx : Nat → Int32) (a : Nat) : ∀ n k, adT s tx a n k = if k < n then s k + (tx (a + k) &&& 255) else s k
  | 0, k => by rw [if_neg (by omega)]; rfl
  | n + 1, k => by
    show upd (adT s tx a n) n (adT s tx a n n + (tx (a + n) &&& 255)) k = _
    by_cases h : k = n
    · subst h; rw [upd_at, if_pos (by omega), adT_at s tx a k k, if_neg (by omega)]
    · rw [upd_ne h, adT_at s tx a n k]
      by_cases h2 : k < n
      · rw [if_pos h2, if_pos (by omega)]
      · rw [if_neg h2, if_neg (by omega)]
theorem sAd_rp (s tx : Nat → Int32) (S : Nat → Nat) (a m : Nat) (h : rp s S 17) (hm : m ≤ 16) : rp (sAd s tx a m) (fun k => S k + 1 * ((if k < m then bN (tx (a + k)) else 0) + 1 * (if k = m then 1 else 0))) 17 := by
  intro k hk
  unfold sAd
  by_cases e : k = m
  · subst e
    rw [upd_at, adT_at, if_neg (by omega), h k hk]
    show nI (S k) + nI 1 = nI (S k + 1 * ((if k < k then _ else 0) + 1 * (if k = k then 1 else 0)))
    rw [nI_add, if_neg (by omega), if_pos rfl]
  · rw [upd_ne e, adT_at, h k hk]
    show _ = nI (S k + 1 * ((if k < m then _ else 0) + 1 * (if k = m then 1 else 0)))
    rw [if_neg e]
    by_cases e2 : k < m
    · rw [if_pos e2, if_pos e2, bN_eq, nI_add]
      congr 1; omega
    · rw [if_neg e2, if_neg e2]
      rfl
def pm2N (P S R : Nat → Nat) (i : Nat) : Nat → Nat → Nat
  | 0 => P
  | j + 1 => uN (pm2N P S R i j) (i + j) (pm2N P S R i j (i + j) + S i * R j)
def pm1N (P S R : Nat → Nat) : Nat → Nat → Nat
  | 0 => P
  | i + 1 => pm2N (pm1N P S R i) S R i 16
theorem pm2_rp {p s r : Nat → Int32} {P S R : Nat → Nat} (hp : rp p P 35) (hs : rp s S 17) (hr : rp r R 16) (i : Nat) (hi : i < 17) : ∀ n, n ≤ 16 → rp (pm2 p s r i n) (pm2N P S R i n) 35
  | 0, _ => hp
  | n + 1, hn => by
    have ih := pm2_rp hp hs hr i hi n (by omega)
    exact ih.up (by rw [ih (i + n) (by omega), hs i hi, hr n (by omega), pk_mul, nI_add])
theorem pm1_rp {p s r : Nat → Int32} {P S R : Nat → Nat} (hp : rp p P 35) (hs : rp s S 17) (hr : rp r R 16) : ∀ n, n ≤ 17 → rp (pm1 p s r n) (pm1N P S R n) 35
  | 0, _ => hp
  | n + 1, hn => pm2_rp (pm1_rp hp hs hr n (by omega)) hs hr n (by omega) 16 (by omega)
theorem pm2_val (P S R : Nat → Nat) (i : Nat) : ∀ n, i + n ≤ 35 → vN (pm2N P S R i n) 35 = vN P 35 + S i * 256 ^ i * vN R n
  | 0, _ => by show vN P 35 = vN P 35 + _ * 0; omega
  | n + 1, h => by
    have ih := pm2_val P S R i n (by omega)
    have h1 := vN_up (pm2N P S R i n) (i + n) (pm2N P S R i n (i + n) + S i * R n) 35 (by omega)
    show vN (uN (pm2N P S R i n) (i + n) (pm2N P S R i n (i + n) + S i * R n)) 35 = vN P 35 + S i * 256 ^ i * (vN R n + R n * 256 ^ n)
    have e : S i * R n * 256 ^ (i + n) = S i * 256 ^ i * (R n * 256 ^ n) := by
      rw [Nat.pow_add]
      ac_rfl
    rw [Nat.add_mul, e] at h1
    rw [Nat.mul_add]
    omega
theorem pm1_val (P S R : Nat → Nat) : ∀ n, n ≤ 17 → vN (pm1N P S R n) 35 = vN P 35 + vN S n * vN R 16
  | 0, _ => by show vN P 35 = vN P 35 + 0 * _; omega
  | n + 1, h => by
    show vN (pm2N (pm1N P S R n) S R n 16) 35 = vN P 35 + (vN S n + S n * 256 ^ n) * vN R 16
    rw [pm2_val _ S R n 16 (by omega), pm1_val P S R n (by omega), Nat.add_mul]
    omega
theorem pm2_at (P S R : Nat → Nat) (i : Nat) : ∀ n t, pm2N P S R i n t = P t + (if i ≤ t ∧ t < i + n then S i * R (t - i) else 0)
  | 0, t => by rw [if_neg (by omega)]; rfl
  | n + 1, t => by
    show uN (pm2N P S R i n) (i + n) (pm2N P S R i n (i + n) + S i * R n) t = _
    by_cases h : t = i + n
    · subst h
      rw [uN_at, pm2_at P S R i n (i + n), if_neg (by omega), if_pos (by omega), Nat.add_sub_cancel_left]
      omega
    · rw [uN_ne h, pm2_at P S R i n t]
      by_cases h2 : i ≤ t ∧ t < i + n
      · rw [if_pos h2, if_pos (by omega)]
      · rw [if_neg h2, if_neg (by omega)]
theorem pm1_le (P S R : Nat → Nat) (C : Nat) (hC : ∀ i j, i < 17 → j < 16 → S i * R j ≤ C) : ∀ n, n ≤ 17 → ∀ t, pm1N P S R n t ≤ P t + n * C
  | 0, _, t => by show P t ≤ _; omega
  | n + 1, hn, t => by
    show pm2N (pm1N P S R n) S R n 16 t ≤ _
    rw [pm2_at]
    have ih := pm1_le P S R C hC n (by omega) t
    rw [Nat.add_mul, Nat.one_mul]
    by_cases h : n ≤ t ∧ t < n + 16
    · rw [if_pos h]
      have := hC n (t - n) (by omega) (by omega)
      omega
    · rw [if_neg h]; omega
theorem cpS_at (p s : Nat → Int32) : ∀ n k, cpS p s n k = if k < n then p k else s k
  | 0, k => by rw [if_neg (by omega)]; rfl
  | n + 1, k => by
    show upd (cpS p s n) n (p n) k = _
    by_cases h : k = n
    · subst h; rw [upd_at, if_pos (by omega)]
    · rw [upd_ne h, cpS_at p s n k]
      by_cases h2 : k < n
      · rw [if_pos h2, if_pos (by omega)]
      · rw [if_neg h2, if_neg (by omega)]
/-- the ints s are the 17 bytes of the number v -/
def dg (s : Nat → Int32) (v : Nat) : Prop := ∀ k, k < 17 → s k = nI (v / 256 ^ k % 256)
/-- one block of the reference -/
theorem stepM (x : SX) (r tx : Nat → Int32) (R : Nat → Nat) (a m v : Nat) (hx : dg x.1 v) (hv : v < 2 ^ 130) (hr : rp r R 16) (hR : ∀ k, k < 16 → R k < 256) (hm : m ≤ 16) : ∃ v', dg (sbF x r tx a m).1 v' ∧ v' < 2 ^ 130 ∧ v' % PRM = ((v + BV (fun k => bN (tx (a + k))) m) * vN R 16) % PRM := by
  rw [sbF_eq]
  have hs : rp x.1 (fun k => v / 256 ^ k % 256) 17 := hx
  have hA := sAd_rp x.1 tx _ a m hs hm
  have hvS : vN (fun k => v / 256 ^ k % 256 + 1 * ((if k < m then bN (tx (a + k)) else 0) + 1 * (if k = m then 1 else 0))) 17 = v + BV (fun k => bN (tx (a + k))) m := by
    rw [vN_add (fun k => v / 256 ^ k % 256) (fun k => (if k < m then bN (tx (a + k)) else 0) + 1 * (if k = m then 1 else 0)) 1 17, vN_digits, Nat.mod_eq_of_lt (by omega), Nat.one_mul]
    rfl
  have hSb : ∀ k, (fun k => v / 256 ^ k % 256 + 1 * ((if k < m then bN (tx (a + k)) else 0) + 1 * (if k = m then 1 else 0))) k ≤ 511 := by
    intro k
    show v / 256 ^ k % 256 + 1 * ((if k < m then bN (tx (a + k)) else 0) + 1 * (if k = m then 1 else 0)) ≤ 511
    have := bN_lt (tx (a + k))
    by_cases e : k < m
    · rw [if_pos e, if_neg (by omega)]; omega
    · rw [if_neg e]; split <;> omega
  generalize (fun k => v / 256 ^ k % 256 + 1 * ((if k < m then bN (tx (a + k)) else 0) + 1 * (if k = m then 1 else 0))) = SA at hA hvS hSb
  have hz : rp (zr0 x.2.1 35) (fun _ => 0) 35 := fun k hk => by rw [zr0_at, if_pos hk]; rfl
  have hp := pm1_rp hz hA hr 17 (by decide)
  have hval : vN (pm1N (fun _ => 0) SA R 17) 35 = (v + BV (fun k => bN (tx (a + k))) m) * vN R 16 := by
    rw [pm1_val _ _ _ 17 (by decide), hvS]
    have : vN (fun _ => 0) 35 = 0 := by rw [vN_zero 0 35 (by decide) (fun _ _ _ => rfl)]; rfl
    rw [this, Nat.zero_add]
  have hle : ∀ j, j < 35 → pm1N (fun _ => 0) SA R 17 j ≤ 2 ^ 29 := by
    intro j hj
    have := pm1_le (fun _ => 0) SA R (511 * 255) (fun i j hi hj => Nat.mul_le_mul (hSb i) (by have := hR j hj; omega)) 17 (by decide) j
    omega
  have hbv := BV_lt (fun k => bN (tx (a + k))) m (fun k => bN_lt _)
  have hrl : vN R 16 < 256 ^ 16 := vN_lt 16 hR
  have hlt : vN (pm1N (fun _ => 0) SA R 17) 35 < 2 ^ 270 := by
    rw [hval]
    have h1 : (v + BV (fun k => bN (tx (a + k))) m) * vN R 16 ≤ (2 ^ 137) * 256 ^ 16 := Nat.mul_le_mul (by omega) (by omega)
    omega
  refine ⟨rd (vN (pm1N (fun _ => 0) SA R 17) 35), ?_, rd_lt _ hlt, ?_⟩
  · intro k hk
    show cpS (sPA x r tx a m).1 (sAd x.1 tx a m) 17 k = _
    rw [cpS_at, if_pos hk]
    exact stl_eq _ _ hp hle hlt k (by omega)
  · rw [rd_mod, hval]
