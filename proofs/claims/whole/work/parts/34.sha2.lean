/-! SHA-256: the stream of bytes against the padded blocks; digest and mac. -/
theorem addF_congr (v : HS) {M M' : Nat → Int32} : ∀ n, (∀ j, j < n → M j = M' j) → addF v M n = addF v M' n
  | 0, _ => rfl
  | n + 1, h => by
    show abF (addF v M n) (M n) = abF (addF v M' n) (M' n)
    rw [addF_congr v n (fun j hj => h j (by omega)), h n (by omega)]
theorem addF_seq (v : HS) (M Q : Nat → Int32) (n : Nat) : ∀ k, (∀ j, j < k → Q j = M (n + j)) → addF (addF v M n) Q k = addF v M (n + k)
  | 0, _ => rfl
  | k + 1, h => by
    show abF (addF (addF v M n) Q k) (Q k) = abF (addF v M (n + k)) (M (n + k))
    rw [addF_seq v M Q n k (fun j hj => h j (by omega)), h k (by omega)]
theorem abF_size (u : HS) (v : Int32) : (abF u v).2.2.2.2.2 = u.2.2.2.2.2 + 1 := by
  rw [abF_eq]; unfold abF0; split <;> rfl
theorem abF_fill (u : HS) (v : Int32) (h : u.2.2.2.2.1 < 64) : (abF u v).2.2.2.2.1 = (u.2.2.2.2.1 + 1) % 64 := by
  rw [abF_eq]; unfold abF0
  split
  · rename_i c; rw [c]
  · show u.2.2.2.2.1 + 1 = _
    omega
theorem addF_size (v : HS) (M : Nat → Int32) : ∀ n, (addF v M n).2.2.2.2.2 = v.2.2.2.2.2 + n
  | 0 => rfl
  | n + 1 => by
    show (abF (addF v M n) (M n)).2.2.2.2.2 = _
    rw [abF_size, addF_size v M n, Nat.add_assoc]
theorem addF_fill (v : HS) (M : Nat → Int32) (h : v.2.2.2.2.1 < 64) : ∀ n, (addF v M n).2.2.2.2.1 = (v.2.2.2.2.1 + n) % 64
  | 0 => by show v.2.2.2.2.1 = _; omega
  | n + 1 => by
    show (abF (addF v M n) (M n)).2.2.2.2.1 = _
    rw [abF_fill _ _ (addF_lt h n), addF_fill v M h n]
    omega
theorem add_low (v : HS) (M : Nat → Int32) (h : v.2.2.2.2.1 = 0) : ∀ i, i ≤ 63 → addF v M i = (v.1, v.2.1, v.2.2.1, cp0 v.2.2.2.1 M i, i, v.2.2.2.2.2 + i)
  | 0, _ => by
    show v = (v.1, v.2.1, v.2.2.1, v.2.2.2.1, 0, v.2.2.2.2.2)
    rw [← h]
  | i + 1, hi => by
    show abF (addF v M i) (M i) = _
    rw [add_low v M h i (by omega), abF_eq]
    exact if_neg (show ¬ i = 63 by omega)
theorem add_64 (v : HS) (M : Nat → Int32) (h : v.2.2.2.2.1 = 0) : (addF v M 64).1 = addS v.1 (roF v.1 (spF (cp0 v.2.2.2.1 M 64) v.2.1) v.2.2.1) 8 ∧ (addF v M 64).2.2.2.2.1 = 0 := by
  have e : addF v M 64 = (addS v.1 (roF v.1 (spF (cp0 v.2.2.2.1 M 64) v.2.1) v.2.2.1) 8, spF (cp0 v.2.2.2.1 M 64) v.2.1, roF v.1 (spF (cp0 v.2.2.2.1 M 64) v.2.1) v.2.2.1, cp0 v.2.2.2.1 M 64, 0, v.2.2.2.2.2 + 63 + 1) := by
    show abF (addF v M 63) (M 63) = _
    rw [add_low v M h 63 (by decide), abF_eq]
    exact if_pos rfl
  rw [e]
  exact ⟨rfl, rfl⟩
theorem hb8_at (h : Nat → Int64) : ∀ j, j < 8 → hb8 h 8 j = zx (tBEGIN j) := l8 rfl rfl rfl rfl rfl rfl rfl rfl
theorem blocks_eq (u : HS) (x : H2) (M row : Nat → Int32) (n whl : Nat) : ∀ i, (∀ p, p < 64 * i → M p &&& 255 = bsel row n whl p) → (addF (stF u) M (64 * i)).2.2.2.2.1 = 0 ∧ ∀ j, j < 8 → (hbs (hb8 x.1 8, x.2) row n whl i).1 j = zx ((addF (stF u) M (64 * i)).1 j)
  | 0, _ => by
    refine ⟨rfl, fun j hj => ?_⟩
    show hb8 x.1 8 j = zx (va_cpy tFIRST u.1 0 0 8 j)
    rw [hb8_at _ j hj, begin_same j hj]
    unfold va_cpy
    rw [if_pos (by omega), Nat.zero_add, Nat.sub_zero]
  | i + 1, hb => by
    obtain ⟨h1, h2⟩ := blocks_eq u x M row n whl i (fun p hp => hb p (by omega))
    have e : addF (stF u) M (64 * (i + 1)) = addF (addF (stF u) M (64 * i)) (fun j => M (64 * i + j)) 64 := by
      rw [addF_seq _ M _ (64 * i) 64 (fun j _ => rfl)]
      rfl
    rw [e]
    obtain ⟨h3, h4⟩ := add_64 (addF (stF u) M (64 * i)) (fun j => M (64 * i + j)) h1
    refine ⟨h4, ?_⟩
    rw [h3]
    show ∀ j, j < 8 → (hbF (hbs (hb8 x.1 8, x.2) row n whl i) row n whl (64 * i)).1 j = _
    apply block_eq _ _ _ _ _ _ _ _ _ h2
    intro p hp
    rw [cp0_at, if_pos hp]
    exact hb (64 * i + p) (by omega)
def whlN (N : Nat) : Nat := (N + 72) / 64 * 64
/-- the message with its padding -/
def padM (m : Nat → Int32) (N p : Nat) : Int32 := if p < N then m p else if p = N then -128 else if whlN N - 4 ≤ p then sB (ushr (nI (N * 8)) (nI (8 * (whlN N - 1 - p)))) else 0
def lenb (x : Int32) (i : Nat) : Int32 := sB (ushr x (nI (24 - 8 * i)))
theorem zerF_add (v : HS) : ∀ n, zerF v n = addF v (fun _ => 0) n
  | 0 => rfl
  | n + 1 => by show abF (zerF v n) 0 = abF (addF v (fun _ => 0) n) 0; rw [zerF_add v n]
theorem lenF_add (v : HS) (x : Int32) : lenF v x = addF v (lenb x) 4 := rfl
theorem fin_eq (u : HS) (m : Nat → Int32) (N : Nat) : finF (addF (stF u) m N) = addF (stF u) (padM m N) (whlN N) := by
  have hs : (addF (stF u) m N).2.2.2.2.2 = N := by rw [addF_size]; show 0 + N = N; omega
  have hf : (abF (addF (stF u) m N) (-128)).2.2.2.2.1 = (N + 1) % 64 := by
    rw [abF_fill _ _ (addF_lt (stF_lt u) N), addF_fill _ _ (stF_lt u)]
    show ((0 + N) % 64 + 1) % 64 = _
    omega
  unfold finF padF
  rw [hs, hf, lenF_add, zerF_add]
  have e0 : addF (stF u) m N = addF (stF u) (padM m N) N := addF_congr _ N (fun j hj => by unfold padM; rw [if_pos hj])
  have e1 : abF (addF (stF u) (padM m N) N) (-128) = addF (stF u) (padM m N) (N + 1) := by
    show _ = abF (addF (stF u) (padM m N) N) (padM m N N)
    unfold padM
    rw [if_neg (Nat.lt_irrefl N), if_pos rfl]
  have hw : whlN N = N + 1 + ((120 - (N + 1) % 64) % 64 + 4) + 4 := by unfold whlN; omega
  rw [e0, e1, addF_seq _ (padM m N) (fun _ => 0) (N + 1) _ (fun j hj => by
    unfold padM
    rw [if_neg (by omega), if_neg (by omega), if_neg (by omega)]), addF_seq _ (padM m N) (lenb (nI (N * 8))) _ 4 (fun j hj => by
    unfold padM lenb
    rw [if_neg (by omega), if_neg (by omega), if_pos (by omega), show 8 * (whlN N - 1 - (N + 1 + ((120 - (N + 1) % 64) % 64 + 4) + j)) = 24 - 8 * j by omega]), ← hw]
theorem sB_255 (x : Int32) : sB x &&& 255 = x &&& 255 := by
  unfold sB
  apply Int32.toBitVec_inj.mp
  rw [Int32.toBitVec_and, Int32.toBitVec_and, Int8.toBitVec_toInt32, Int32.toBitVec_toInt8]
  have hb : ∀ i, (255 : Int32).toBitVec.getLsbD i = decide (i < 8) := by
    intro i
    show (255#32).getLsbD i = _
    rw [BitVec.getLsbD_ofNat, show (255 : Nat) = 2 ^ 8 - 1 from rfl, Nat.testBit_two_pow_sub_one]
    by_cases h : i < 8
    · simp [h]; omega
    · simp [h]
  apply BitVec.eq_of_getLsbD_eq
  intro i hi
  rw [BitVec.getLsbD_and, BitVec.getLsbD_and, hb, BitVec.signExtend_eq_setWidth_of_le x.toBitVec (by decide), BitVec.getLsbD_signExtend, BitVec.getLsbD_setWidth]
  by_cases h : i < 8
  · simp [h, hi]
  · simp [h]
theorem pad_bsel (m row : Nat → Int32) (N : Nat) (h : ∀ p, p < N → m p &&& 255 = row p &&& 255) : ∀ p, p < whlN N → padM m N p &&& 255 = bsel row N (whlN N) p := by
  intro p hp
  unfold padM bsel
  by_cases h1 : p < N
  · rw [if_pos h1, if_pos h1]; exact h p h1
  · rw [if_neg h1, if_neg h1]
    by_cases h2 : p = N
    · rw [if_pos h2, if_pos h2]; decide
    · rw [if_neg h2, if_neg h2]
      by_cases h3 : whlN N - 4 ≤ p
      · rw [if_pos h3, if_pos h3, sB_shr _ _ (by omega), sB_255, Nat.mul_comm]
      · rw [if_neg h3, if_neg h3]; decide
theorem wh_at (f : Nat → Int32) (k : Nat) (x : Int32) (j : Nat) : wh f k x j = if k ≤ j ∧ j < k + 4 then sB (ushr x (nI (24 - 8 * (j - k)))) else f j := by
  unfold wh
  by_cases h3 : j = k + 3
  · subst h3
    rw [upd_at, if_pos (by omega), show k + 3 - k = 3 by omega]
    apply sB_eq
    rw [ushr_bv x (24 - 8 * 3) (by decide)]
    rfl
  · rw [upd_ne h3]
    by_cases h2 : j = k + 2
    · subst h2
      rw [upd_at, if_pos (by omega), show k + 2 - k = 2 by omega]
      rfl
    · rw [upd_ne h2]
      by_cases h1 : j = k + 1
      · subst h1
        rw [upd_at, if_pos (by omega), show k + 1 - k = 1 by omega]
        rfl
      · rw [upd_ne h1]
        by_cases h0 : j = k
        · subst h0
          rw [upd_at, if_pos (by omega), Nat.sub_self]
          rfl
        · rw [upd_ne h0, if_neg (by omega)]
theorem outH_at (row st : Nat → Int32) : ∀ n j, outH row st n j = if j < 4 * n then sB (ushr (st (j / 4)) (nI (24 - 8 * (j % 4)))) else row j
  | 0, j => by rw [if_neg (by omega)]; rfl
  | n + 1, j => by
    show wh (outH row st n) (4 * n) (st n) j = _
    rw [wh_at, outH_at row st n j]
    by_cases h : 4 * n ≤ j ∧ j < 4 * n + 4
    · rw [if_pos h, if_pos (by omega), show j / 4 = n by omega, show j - 4 * n = j % 4 by omega]
    · rw [if_neg h]
      by_cases h2 : j < 4 * n
      · rw [if_pos h2, if_pos (by omega)]
      · rw [if_neg h2, if_neg (by omega)]
theorem toF_at (to : Nat → Int32) (h : Nat → Int64) : ∀ n j, toF to h 0 n j = if j < n then sB (lshr (h (j / 4)) (nI (24 - 8 * (j % 4)))).toInt32 else to j
  | 0, j => by rw [if_neg (by omega)]; rfl
  | n + 1, j => by
    show upd (toF to h 0 n) (0 + n) (sB (lshr (h (n / 4)) (nI (24 - 8 * (n % 4)))).toInt32) j = _
    rw [Nat.zero_add]
    by_cases h1 : j = n
    · subst h1; rw [upd_at, if_pos (by omega)]
    · rw [upd_ne h1, toF_at to h n j]
      by_cases h2 : j < n
      · rw [if_pos h2, if_pos (by omega)]
      · rw [if_neg h2, if_neg (by omega)]
/-- the digest's bytes are the same -/
theorem dig_at (u : HS) (x : H2) (m row : Nat → Int32) (N : Nat) (h : ∀ p, p < N → m p &&& 255 = row p &&& 255) : ∀ j, j < 32 → sB (ushr ((finF (addF (stF u) m N)).1 (j / 4)) (nI (24 - 8 * (j % 4)))) = sB (lshr ((hsF x row N).1 (j / 4)) (nI (24 - 8 * (j % 4)))).toInt32 := by
  intro j hj
  have e := (blocks_eq u x (padM m N) row N (whlN N) ((N + 72) / 64) (fun p hp => pad_bsel m row N h p (by unfold whlN; omega))).2 (j / 4) (by omega)
  rw [fin_eq]
  show _ = sB (lshr ((hbs (hb8 x.1 8, x.2) row N (whlN N) ((N + 72) / 64)).1 (j / 4)) (nI (24 - 8 * (j % 4)))).toInt32
  rw [e, zx_shr _ _ (by omega), lo_zx, show 64 * ((N + 72) / 64) = whlN N by unfold whlN; omega]
theorem digest_eq (u : HS) (x : H2) (m row o o' : Nat → Int32) (N : Nat) (h : ∀ p, p < N → m p &&& 255 = row p &&& 255) (ho : ∀ j, 32 ≤ j → o j = o' j) : outH o (finF (addF (stF u) m N)).1 8 = toF o' (hsF x row N).1 0 32 := by
  funext j
  rw [outH_at, toF_at]
  by_cases hj : j < 32
  · rw [if_pos (show j < 4 * 8 from hj), if_pos hj]
    exact dig_at u x m row N h j hj
  · rw [if_neg (show ¬ j < 4 * 8 from hj), if_neg hj]
    exact ho j (by omega)
theorem addR_at (row src : Nat → Int32) (rc k : Nat) : ∀ n j, addR row src rc k n j = if rc ≤ j ∧ j < rc + n then sB (src (k + (j - rc))) else row j
  | 0, j => by rw [if_neg (by omega)]; rfl
  | n + 1, j => by
    show upd (addR row src rc k n) (rc + n) (sB (src (k + n))) j = _
    by_cases h : j = rc + n
    · subst h; rw [upd_at, if_pos (by omega), Nat.add_sub_cancel_left]
    · rw [upd_ne h, addR_at row src rc k n j]
      by_cases h2 : rc ≤ j ∧ j < rc + n
      · rw [if_pos h2, if_pos (by omega)]
      · rw [if_neg h2, if_neg (by omega)]
/-- promise 11 -/
theorem digest_out (u : HS) (x : H2) (ta row o : Nat → Int32) (tn : Nat) : outH o (finF (addF (stF u) ta tn)).1 8 = toF o (hsF x (addR row ta 0 0 tn) (0 + tn)).1 0 32 := by
  rw [Nat.zero_add]
  apply digest_eq _ _ _ _ _ _ _ _ (fun _ _ => rfl)
  intro p hp
  rw [addR_at, if_pos (by omega), Nat.zero_add, Nat.sub_zero, sB_255]
theorem mkF_at (row fk : Nat → Int32) (mk : Int32) : ∀ n j, mkF row fk mk n j = if j < n then sB ((if j < 32 then fk j else 0) ^^^ mk) else row j
  | 0, j => by rw [if_neg (by omega)]; rfl
  | n + 1, j => by
    show upd (mkF row fk mk n) (0 + n) (sB ((if n < 32 then fk n else 0) ^^^ mk)) j = _
    rw [Nat.zero_add]
    by_cases h : j = n
    · subst h; rw [upd_at, if_pos (Nat.lt_succ_self j)]
    · rw [upd_ne h, mkF_at row fk mk n j]
      by_cases h2 : j < n
      · rw [if_pos h2, if_pos (show j < n + 1 by omega)]
      · rw [if_neg h2, if_neg (show ¬ j < n + 1 by omega)]
theorem msk_eq (fk : Nat → Int32) (mk : Int32) (i : Nat) : mskF fk mk i = sB ((if i < 32 then fk i else 0) ^^^ mk) := by
  unfold mskF
  by_cases h : i < 32
  · rw [if_pos h, if_pos h]
  · rw [if_neg h, if_neg h, Int32.zero_xor]
/-- one of the two digests of the mac: 64 bytes of the key, then n bytes -/
theorem macrow (u : HS) (x : H2) (fk ta src row : Nat → Int32) (mk : Int32) (n : Nat) (hs : ∀ p, p < n → ta p = src p) : ∃ m : Nat → Int32, addF (addF (stF u) (mskF fk mk) 64) ta n = addF (stF u) m (64 + n) ∧ ∀ p, p < 64 + n → m p &&& 255 = addR (mkF row fk mk 64) src (0 + 64) 0 n p &&& 255 := by
  refine ⟨fun p => if p < 64 then mskF fk mk p else ta (p - 64), ?_, ?_⟩
  · rw [addF_congr (stF u) (M' := fun p => if p < 64 then mskF fk mk p else ta (p - 64)) 64 (fun j hj => (if_pos hj).symm)]
    apply addF_seq
    intro j hj
    show ta j = if 64 + j < 64 then _ else ta (64 + j - 64)
    rw [if_neg (by omega), Nat.add_sub_cancel_left]
  · intro p hp
    show (if p < 64 then mskF fk mk p else ta (p - 64)) &&& 255 = _
    rw [addR_at, Nat.zero_add]
    by_cases h : p < 64
    · rw [if_pos h, if_neg (by omega), mkF_at, if_pos h, msk_eq]
    · rw [if_neg h, if_pos (by omega), sB_255, Nat.zero_add, hs (p - 64) (by omega)]
/-- promise 12 -/
theorem mac_out (u : HS) (x : H2) (fk ta row o one_ : Nat → Int32) (tn : Nat) :
    outH (outH o (finF (addF (addF (stF u) (mskF fk 54) 64) ta tn)).1 8) (finF (addF (addF (stF (finF (addF (addF (stF u) (mskF fk 54) 64) ta tn))) (mskF fk 92) 64) (outH o (finF (addF (addF (stF u) (mskF fk 54) 64) ta tn)).1 8) 32)).1 8
    = toF o (hsF (hsF x (addR (mkF row fk 54 64) ta (0 + 64) 0 tn) (0 + 64 + tn)) (addR (mkF (addR (mkF row fk 54 64) ta (0 + 64) 0 tn) fk 92 64) (toF one_ (hsF x (addR (mkF row fk 54 64) ta (0 + 64) 0 tn) (0 + 64 + tn)).1 0 32) (0 + 64) 0 32) (0 + 64 + 32)).1 0 32 := by
  obtain ⟨m1, e1, h1⟩ := macrow u x fk ta ta row 54 tn (fun _ _ => rfl)
  rw [e1]
  have hx : (0 : Nat) + 64 + tn = 64 + tn := by omega
  rw [hx]
  generalize hu : finF (addF (stF u) m1 (64 + tn)) = u1
  have hd : ∀ p, p < 32 → outH o u1.1 8 p = toF one_ (hsF x (addR (mkF row fk 54 64) ta (0 + 64) 0 tn) (64 + tn)).1 0 32 p := by
    intro p hp
    rw [outH_at, toF_at, if_pos (show p < 4 * 8 from hp), if_pos hp, ← hu]
    exact dig_at u x m1 _ (64 + tn) h1 p hp
  obtain ⟨m2, e2, h2⟩ := macrow u1 x fk (outH o u1.1 8) (toF one_ (hsF x (addR (mkF row fk 54 64) ta (0 + 64) 0 tn) (64 + tn)).1 0 32) (addR (mkF row fk 54 64) ta (0 + 64) 0 tn) 92 32 hd
  rw [e2]
  exact digest_eq u1 _ m2 _ _ o (64 + 32) h2 (fun j hj => by rw [outH_at, if_neg (by omega)])
