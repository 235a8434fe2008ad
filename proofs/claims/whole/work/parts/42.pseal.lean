/-! What is sealed: its sum, its bytes. -/
theorem txF_at (txt src : Nat → Int32) (t0 k n : Nat) : ∀ N p, txF txt src t0 k n N p = if t0 ≤ p ∧ p < t0 + N then (if p - t0 < n then src (k + (p - t0)) else 0) else txt p
  | 0, p => by rw [if_neg (show ¬ (t0 ≤ p ∧ p < t0 + 0) by omega)]; rfl
  | N + 1, p => by
    show upd (txF txt src t0 k n N) (t0 + N) (if N < n then src (k + N) else 0) p = _
    by_cases h : p = t0 + N
    · subst h; rw [upd_at, if_pos (show t0 ≤ t0 + N ∧ t0 + N < t0 + (N + 1) by omega), Nat.add_sub_cancel_left]
    · rw [upd_ne h, txF_at txt src t0 k n N p]
      by_cases h2 : t0 ≤ p ∧ p < t0 + N
      · rw [if_pos h2, if_pos (show t0 ≤ p ∧ p < t0 + (N + 1) by omega)]
      · rw [if_neg h2, if_neg (show ¬ (t0 ≤ p ∧ p < t0 + (N + 1)) by omega)]
theorem slT_lo (txt ta se : Nat → Int32) (n k m p : Nat) (hp : p < slN n m) : slT txt ta se n k m p = slZ txt ta se n k m p := by
  unfold slT
  rw [upd_ne (by omega), upd_ne (by omega), upd_ne (by omega), upd_ne (by omega)]
theorem slT_1 (txt ta se : Nat → Int32) (n k m p : Nat) (hp : p < (n + 15) / 16 * 16) : slT txt ta se n k m p = if p < n then ta p else 0 := by
  rw [slT_lo txt ta se n k m p (by unfold slN; omega)]
  unfold slZ slN
  rw [zrF_at, if_neg (by omega), txF_at, if_neg (show ¬ ((n + 15) / 16 * 16 ≤ p ∧ _) by omega), txF_at, if_pos (show 0 ≤ p ∧ p < 0 + (n + 15) / 16 * 16 by omega), Nat.sub_zero, Nat.zero_add]
theorem slT_2 (txt ta se : Nat → Int32) (n k m p : Nat) (hp : p < (m + 15) / 16 * 16) : slT txt ta se n k m ((n + 15) / 16 * 16 + p) = if p < m then se (k + p) else 0 := by
  rw [slT_lo txt ta se n k m _ (by unfold slN; omega)]
  unfold slZ slN
  rw [zrF_at, if_neg (by omega), txF_at, if_pos (show (n + 15) / 16 * 16 ≤ (n + 15) / 16 * 16 + p ∧ (n + 15) / 16 * 16 + p < (n + 15) / 16 * 16 + (m + 15) / 16 * 16 by omega), Nat.add_sub_cancel_left]
theorem bN0 : bN 0 = 0 := by decide
/-- the byte j of the two sizes -/
def szN (n m j : Nat) : Nat := if j < 4 then n / 256 ^ j % 256 else if 8 ≤ j ∧ j < 12 then m / 256 ^ (j - 8) % 256 else 0
theorem bN_shr8 (n : Nat) (h : n ≤ 800) : bN (shr (nI n) 8) = n / 256 % 256 := by
  have e := sB_shr (nI n) 8 (by omega)
  have e2 := bN_ushr n 1 (by omega)
  rw [show shr (nI n) 8 = shr (nI n) (nI 8) from rfl, ← bN_sB, ← e, bN_sB]
  show bN (ushr (nI n) (nI (8 * 1))) = _
  rw [e2]
  omega
theorem slT_3 (txt ta se : Nat → Int32) (n k m j : Nat) (hj : j < 16) (hn : n ≤ 800) (hm : m ≤ 800) : bN (slT txt ta se n k m (slN n m + j)) = szN n m j := by
  have hz : ∀ p, p < 16 → slZ txt ta se n k m (slN n m + p) = 0 := by
    intro p hp
    unfold slZ
    rw [zrF_at, if_pos (by omega)]
  unfold slT
  by_cases h9 : j = 9
  · subst h9
    rw [upd_at, bN_sB, bN_shr8 m hm]; rfl
  rw [upd_ne (by omega)]
  by_cases h8 : j = 8
  · subst h8
    rw [upd_at, bN_sB, bN_nI (by omega)]
    show m % 256 = m / 1 % 256
    rw [Nat.div_one]
  rw [upd_ne (by omega)]
  by_cases h1 : j = 1
  · subst h1
    rw [upd_at, bN_sB, bN_shr8 n hn]; rfl
  rw [upd_ne (by omega)]
  by_cases h0 : j = 0
  · subst h0
    rw [Nat.add_zero, upd_at, bN_sB, bN_nI (by omega)]
    show n % 256 = n / 1 % 256
    rw [Nat.div_one]
  rw [upd_ne (by omega), hz j hj, bN0]
  unfold szN
  have h : j = 2 ∨ j = 3 ∨ j = 4 ∨ j = 5 ∨ j = 6 ∨ j = 7 ∨ j = 10 ∨ j = 11 ∨ j = 12 ∨ j = 13 ∨ j = 14 ∨ j = 15 := by omega
  rcases h with rfl | rfl | rfl | rfl | rfl | rfl | rfl | rfl | rfl | rfl | rfl | rfl
  · show 0 = n / 65536 % 256; omega
  · show 0 = n / 16777216 % 256; omega
  · rfl
  · rfl
  · rfl
  · rfl
  · show 0 = m / 65536 % 256; omega
  · show 0 = m / 16777216 % 256; omega
  · rfl
  · rfl
  · rfl
  · rfl
/-- the bytes of the sizes that nothing writes -/
def Zer (f : Nat → Int32) : Prop := ∀ j, (4 ≤ j ∧ j < 8) ∨ (12 ≤ j ∧ j < 16) → f j = 0
theorem ssZ_at (siz : Nat → Int32) (n m j : Nat) (hz : Zer siz) (hj : j < 16) (hn : n ≤ 800) (hm : m ≤ 800) : bN (ssZ siz n m j) = szN n m j := by
  unfold ssZ szN
  rw [wl_at, wl_at]
  by_cases h4 : j < 4
  · rw [if_neg (by omega), if_pos (by omega), if_pos h4, bN_sB, bN_ushr n (j - 0) (by omega), Nat.sub_zero, Nat.mod_eq_of_lt (show n < 4294967296 by omega)]
  · rw [if_neg h4]
    by_cases h8 : 8 ≤ j ∧ j < 12
    · rw [if_pos (by omega), if_pos h8, bN_sB, bN_ushr m (j - 8) (by omega), Nat.mod_eq_of_lt (show m < 4294967296 by omega)]
    · rw [if_neg (by omega), if_neg (by omega), if_neg h8, hz j (by omega), bN0]
theorem ssZ_zer {siz : Nat → Int32} {n m : Nat} (h : Zer siz) : Zer (ssZ siz n m) := by
  intro j hj
  unfold ssZ
  rw [wl_at, wl_at, if_neg (by omega), if_neg (by omega), h j hj]
theorem slT_p1 {r : Nat → Int64} {rM : Nat → Int32} (hK : Kel r rM) (x : TPB) (z : SX) (txt ta se : Nat → Int32) (n k m : Nat) (h : Rel x.1 z.1) : ∀ i, i ≤ (n + 15) / 16 → Rel (ppadF r x ta 0 n i).1 (sbN z rM (slT txt ta se n k m) (slN n m + 16) i).1
  | 0, _ => h
  | i + 1, hi => by
    have hN : slN n m = (n + 15) / 16 * 16 + (m + 15) / 16 * 16 := rfl
    show Rel (abkF r (ppadF r x ta 0 n i) ta (0 + 16 * i) (min 16 (n - 16 * i)) 16).1 (sbF (sbN z rM (slT txt ta se n k m) (slN n m + 16) i) rM (slT txt ta se n k m) (16 * i) (min 16 (slN n m + 16 - 16 * i))).1
    rw [show min 16 (slN n m + 16 - 16 * i) = 16 by omega]
    refine rel_step hK _ _ ta _ (0 + 16 * i) (min 16 (n - 16 * i)) 16 (16 * i) (slT_p1 hK x z txt ta se n k m h i (by omega)) (by omega) (Nat.le_refl _) (fun q hq => ?_)
    rw [slT_1 txt ta se n k m (16 * i + q) (by omega), Nat.zero_add]
    by_cases e : q < min 16 (n - 16 * i)
    · rw [if_pos e, if_pos (by omega)]
    · rw [if_neg e, if_neg (by omega), bN0]
theorem slT_p2 {r : Nat → Int64} {rM : Nat → Int32} (hK : Kel r rM) (x : TPB) (z : SX) (txt ta se : Nat → Int32) (n k m : Nat) (h : Rel x.1 (sbN z rM (slT txt ta se n k m) (slN n m + 16) ((n + 15) / 16)).1) : ∀ i, i ≤ (m + 15) / 16 → Rel (ppadF r x se k m i).1 (sbN z rM (slT txt ta se n k m) (slN n m + 16) ((n + 15) / 16 + i)).1
  | 0, _ => h
  | i + 1, hi => by
    have hN : slN n m = (n + 15) / 16 * 16 + (m + 15) / 16 * 16 := rfl
    show Rel (abkF r (ppadF r x se k m i) se (k + 16 * i) (min 16 (m - 16 * i)) 16).1 (sbF (sbN z rM (slT txt ta se n k m) (slN n m + 16) ((n + 15) / 16 + i)) rM (slT txt ta se n k m) (16 * ((n + 15) / 16 + i)) (min 16 (slN n m + 16 - 16 * ((n + 15) / 16 + i)))).1
    rw [show min 16 (slN n m + 16 - 16 * ((n + 15) / 16 + i)) = 16 by omega]
    refine rel_step hK _ _ se _ (k + 16 * i) (min 16 (m - 16 * i)) 16 (16 * ((n + 15) / 16 + i)) (slT_p2 hK x z txt ta se n k m h i (by omega)) (by omega) (Nat.le_refl _) (fun q hq => ?_)
    rw [show 16 * ((n + 15) / 16 + i) + q = (n + 15) / 16 * 16 + (16 * i + q) by omega, slT_2 txt ta se n k m (16 * i + q) (by omega), show k + 16 * i + q = k + (16 * i + q) by omega]
    by_cases e : q < min 16 (m - 16 * i)
    · rw [if_pos e, if_pos (by omega)]
    · rw [if_neg e, if_neg (by omega), bN0]
theorem slT_p3 {r : Nat → Int64} {rM : Nat → Int32} (hK : Kel r rM) (x : TPB) (z : SX) (txt ta se siz : Nat → Int32) (n k m : Nat) (hz : Zer siz) (hn : n ≤ 800) (hm : m ≤ 800) (h : Rel x.1 (sbN z rM (slT txt ta se n k m) (slN n m + 16) ((n + 15) / 16 + (m + 15) / 16)).1) : Rel (paddF r x (ssZ siz n m) 0 16 ((16 + 15) / 16)).1 (sbN z rM (slT txt ta se n k m) (slN n m + 16) ((slN n m + 16 + 15) / 16)).1 := by
  have hN : slN n m = (n + 15) / 16 * 16 + (m + 15) / 16 * 16 := rfl
  rw [show (slN n m + 16 + 15) / 16 = (n + 15) / 16 + (m + 15) / 16 + 1 by omega]
  show Rel (abkF r x (ssZ siz n m) (0 + 16 * 0) (min 16 (16 - 16 * 0)) (min 16 (16 - 16 * 0))).1 (sbF (sbN z rM (slT txt ta se n k m) (slN n m + 16) ((n + 15) / 16 + (m + 15) / 16)) rM (slT txt ta se n k m) (16 * ((n + 15) / 16 + (m + 15) / 16)) (min 16 (slN n m + 16 - 16 * ((n + 15) / 16 + (m + 15) / 16)))).1
  rw [show min 16 (slN n m + 16 - 16 * ((n + 15) / 16 + (m + 15) / 16)) = 16 by omega, show min 16 (16 - 16 * 0) = 16 from rfl, show 0 + 16 * 0 = 0 from rfl]
  refine rel_step hK _ _ _ _ 0 16 16 (16 * ((n + 15) / 16 + (m + 15) / 16)) h (by omega) (by omega) (fun q hq => ?_)
  rw [if_pos hq, Nat.zero_add, show 16 * ((n + 15) / 16 + (m + 15) / 16) + q = slN n m + q by omega, slT_3 txt ta se n k m q hq hn hm, ssZ_at siz n m q hz hq hn hm]
/-- the 16 bytes of what is sealed -/
theorem seal_tag (y : SS) (y' : S5) (fk fn ta se txt s b v : Nat → Int32) (n k m : Nat) (hz : Zer y.2.2.2.2.2.2.2.2.2.1) (hn : n ≤ 800) (hm : m ≤ 800) : ∀ j, j < 16 → (ssF y fk fn ta se n k m).2.2.2.2.2.2.2.2.2.2 j = (smF y' (msF s b v fk fn 0) (slT txt ta se n k m) (slN n m + 16)).2.2.2.2 j := by
  intro j hj
  have hk : ∀ q, q < 64 → ssB y fk fn q = msF s b v fk fn 0 q := by
    intro q hq
    unfold ssB
    rw [fillF_at, msF_at, if_pos hq, if_pos hq]
  have hK : Kel (ssR y fk fn) (rF y'.1 (msF s b v fk fn 0) 16) := kel_start _ _ _ _ _ (fun q hq => hk q (by omega))
  have hr : Rel (ssX y fk fn ta se n k m).1 (smX y' (msF s b v fk fn 0) (slT txt ta se n k m) (slN n m + 16)).1 :=
    slT_p3 hK _ _ txt ta se _ n k m hz hn hm (slT_p2 hK _ _ txt ta se n k m (slT_p1 hK _ _ txt ta se n k m (rel_start _ _) _ (Nat.le_refl _)) _ (Nat.le_refl _))
  rw [ssF_eq]
  show (foS (words4 (finT (ssX y fk fn ta se n k m).1 (ssX y fk fn ta se n k m).2.1) y.2.2.2.2.2.2.1) (last4 (ssB y fk fn) y.2.2.2.2.2.2.2.1 4) y.2.2.2.2.2.2.2.2.2.2 0 4).2 j = _
  rw [tag_eq _ _ _ (ssB y fk fn) (msF s b v fk fn 0) _ _ _ 0 _ y' hr (fun q hq => hk q (by omega)) j, if_pos (by omega), Nat.sub_zero]
/-! The stream over the TAPE. -/
def CV (fk fn ta : Nat → Int32) (f p : Nat) : Int32 := sB (ta (f + p) ^^^ STR fk fn (nI (1 + p / 64)) (p % 64))
theorem xorF_at (o ta sb : Nat → Int32) (d fr : Nat) : ∀ n p, xorF o ta sb d fr n p = if d ≤ p ∧ p < d + n then sB (ta (fr + p) ^^^ sb (p - d)) else o p
  | 0, p => by rw [if_neg (by omega)]; rfl
  | n + 1, p => by
    show upd (xorF o ta sb d fr n) (d + n) (sB (ta (fr + d + n) ^^^ sb n)) p = _
    by_cases h : p = d + n
    · subst h; rw [upd_at, if_pos (by omega), Nat.add_sub_cancel_left, Nat.add_assoc]
    · rw [upd_ne h, xorF_at o ta sb d fr n p]
      by_cases h2 : d ≤ p ∧ p < d + n
      · rw [if_pos h2, if_pos (by omega)]
      · rw [if_neg h2, if_neg (by omega)]
theorem covF_at (x : CS) (fk fn ta : Nat → Int32) (f sz : Nat) : ∀ i p, (covF x fk fn ta f sz i).1 p = if p < min (64 * i) sz then CV fk fn ta f p else x.1 p
  | 0, p => by rw [if_neg (by omega)]; rfl
  | i + 1, p => by
    rw [covF_s]
    show xorF (covF x fk fn ta f sz i).1 ta (fillF (covF x fk fn ta f sz i).2.1 (covF x fk fn ta f sz i).2.2.1 (covF x fk fn ta f sz i).2.2.2 fk fn (nI (1 + i))) (64 * i) f (min 64 (sz - 64 * i)) p = _
    rw [xorF_at, covF_at x fk fn ta f sz i p]
    by_cases h : 64 * i ≤ p ∧ p < 64 * i + min 64 (sz - 64 * i)
    · rw [if_pos h, if_pos (by omega), fillF_at, if_pos (by omega)]
      unfold CV
      rw [show p / 64 = i by omega, show p % 64 = p - 64 * i by omega]
    · rw [if_neg h]
      by_cases h2 : p < min (64 * i) sz
      · rw [if_pos h2, if_pos (by omega)]
      · rw [if_neg h2, if_neg (by omega)]
theorem mcov_s (x : MCS) (fk fn ta : Nat → Int32) (f i : Nat) : mcov x fk fn ta f (i + 1) = mcv0 (mcov x fk fn ta f i) fk fn ta f i := by
  show mcvF _ _ _ _ _ _ = _
  rw [mcvF_eq]
theorem mcov_at (x : MCS) (fk fn ta : Nat → Int32) (f : Nat) : ∀ i, (∀ p, (mcov x fk fn ta f i).1 p = if p < i then CV fk fn ta f p else x.1 p) ∧ (0 < i → ∀ q, q < 64 → (mcov x fk fn ta f i).2.2.2 q = STR fk fn (nI (1 + (i - 1) / 64)) q)
  | 0 => ⟨fun p => by rw [if_neg (by omega)]; rfl, fun h => absurd h (by omega)⟩
  | i + 1 => by
    obtain ⟨h1, h2⟩ := mcov_at x fk fn ta f i
    rw [mcov_s]
    unfold mcv0
    by_cases e : i % 64 = 0
    · rw [if_pos e]
      refine ⟨fun p => ?_, fun _ q hq => ?_⟩
      · show upd (mcov x fk fn ta f i).1 i _ p = _
        by_cases c : p = i
        · subst c
          rw [upd_at, if_pos (by omega), msF_at, if_pos (by omega)]
          rfl
        · rw [upd_ne c, h1 p]
          by_cases c2 : p < i
          · rw [if_pos c2, if_pos (by omega)]
          · rw [if_neg c2, if_neg (by omega)]
      · show msF _ _ _ fk fn (nI (1 + i / 64)) q = _
        rw [msF_at, if_pos hq, Nat.add_sub_cancel]
    · rw [if_neg e]
      refine ⟨fun p => ?_, fun _ q hq => ?_⟩
      · show upd (mcov x fk fn ta f i).1 i _ p = _
        by_cases c : p = i
        · subst c
          rw [upd_at, if_pos (by omega), h2 (by omega) (p % 64) (by omega), show (p - 1) / 64 = p / 64 by omega]
          rfl
        · rw [upd_ne c, h1 p]
          by_cases c2 : p < i
          · rw [if_pos c2, if_pos (by omega)]
          · rw [if_neg c2, if_neg (by omega)]
      · show (mcov x fk fn ta f i).2.2.2 q = _
        rw [h2 (by omega) q hq, show (i - 1) / 64 = (i + 1 - 1) / 64 by omega]
theorem cover_eq (x : CS) (x' : MCS) (fk fn ta : Nat → Int32) (f sz : Nat) (h : x.1 = x'.1) : (covF x fk fn ta f sz ((sz + 63) / 64)).1 = (mcov x' fk fn ta f sz).1 := by
  funext p
  rw [covF_at, (mcov_at x' fk fn ta f sz).1 p, h]
  by_cases e : p < sz
  · rw [if_pos e, if_pos (by omega)]
  · rw [if_neg e, if_neg (by omega)]
/-- promise 9 -/
theorem seal_out (x : CS) (fa t p wo : Nat → Int64) (la b siz sm fk fn ta txt : Nat → Int32) (x' : MCS) (y' : S5) (j tn : Nat) (hz : Zer siz) (ht : tn ≤ 800) (hj : j ≤ tn) (hx : x.1 = x'.1) : va_cpy ((sealS x fa t p wo la b siz sm fk fn ta j tn).2.2.2.2.2.2.2.2.2.2) (sealC x fk fn ta j tn).1 0 (tn - j) 16 = cpT (slC x' fk fn ta j tn).1 (slY x' y' fk fn ta txt j tn).2.2.2.2 (tn - j) 16 := by
  have e1 : (sealC x fk fn ta j tn).1 = (slX x' fk fn ta j tn).1 := cover_eq x x' fk fn ta j (tn - j) hx
  have e2 : (slC x' fk fn ta j tn).1 = (slX x' fk fn ta j tn).1 := rfl
  rw [e2, ← e1, cpT_cpy]
  funext q
  unfold va_cpy
  by_cases h : tn - j ≤ q ∧ q < tn - j + 16
  · rw [if_pos h, if_pos h, Nat.zero_add]
    unfold sealS slY
    rw [e1]
    exact seal_tag _ y' fk fn ta _ txt _ _ _ j 0 (tn - j) hz (by omega) (by omega) _ (by omega)
  · rw [if_neg h, if_neg h]
/-- promise 10 -/
theorem open_tag (x : CS) (fa t p wo : Nat → Int64) (la b siz sm fk fn ta txt : Nat → Int32) (x' : MCS) (y' : S5) (j tn : Nat) (hz : Zer siz) (ht : tn ≤ 800) (hj : j + 16 ≤ tn) : ∀ q, q < 16 → (openS x fa t p wo la b siz sm fk fn ta j tn).2.2.2.2.2.2.2.2.2.2 q = (opY x' y' fk fn ta txt j tn).2.2.2.2 q := by
  intro q hq
  unfold openS opY
  exact seal_tag _ y' fk fn ta _ txt _ _ _ j j (tn - 16 - j) hz (by omega) (by omega) _ hq
theorem or_zero32 {a b : Int32} : a ||| b = 0 ↔ a = 0 ∧ b = 0 := by
  rw [← Int32.toBitVec_inj, ← Int32.toBitVec_inj, ← Int32.toBitVec_inj, Int32.toBitVec_or]
  exact BitVec.or_eq_zero_iff
theorem xor_zero32 {a b : Int32} : a ^^^ b = 0 ↔ a = b := by
  rw [← Int32.toBitVec_inj, ← Int32.toBitVec_inj, Int32.toBitVec_xor]
  exact BitVec.xor_eq_zero_iff
theorem dif_zero (sm ta : Nat → Int32) (k : Nat) : ∀ n, dif sm ta k n = 0 ↔ ∀ q, q < n → sm q = ta (k + q)
  | 0 => ⟨fun _ q hq => by omega, fun _ => rfl⟩
  | n + 1 => by
    show dif sm ta k n ||| (sm n ^^^ ta (k + n)) = 0 ↔ _
    rw [or_zero32, xor_zero32, dif_zero sm ta k n]
    constructor
    · intro ⟨h1, h2⟩ q hq
      by_cases e : q = n
      · rw [e]; exact h2
      · exact h1 q (by omega)
    · intro h
      exact ⟨fun q hq => h q (by omega), h n (by omega)⟩
theorem isN_zero (ta tg : Nat → Int32) (p : Nat) : ∀ n, ¬ isN ta tg p n = 0 ↔ ∀ q, q < n → tg q = ta (p + q)
  | 0 => ⟨fun _ q hq => by omega, fun _ => by show ¬ (1 : Int32) = 0; decide⟩
  | n + 1 => by
    show ¬ (if ¬ isN ta tg p n = 0 ∧ ta (p + n) = tg n then (1 : Int32) else 0) = 0 ↔ _
    by_cases e : ¬ isN ta tg p n = 0 ∧ ta (p + n) = tg n
    · rw [if_pos e]
      refine ⟨fun _ q hq => ?_, fun _ => by decide⟩
      by_cases c : q = n
      · rw [c]; exact e.2.symm
      · exact (isN_zero ta tg p n).mp e.1 q (by omega)
    · rw [if_neg e]
      refine ⟨fun h => absurd rfl h, fun h => absurd ⟨(isN_zero ta tg p n).mpr (fun q hq => h q (by omega)), (h n (by omega)).symm⟩ e⟩
theorem open_iff (x : CS) (fa t p wo : Nat → Int64) (la b siz sm fk fn ta txt : Nat → Int32) (x' : MCS) (y' : S5) (j tn : Nat) (hz : Zer siz) (ht : tn ≤ 800) (hj : j + 16 ≤ tn) : dif ((openS x fa t p wo la b siz sm fk fn ta j tn).2.2.2.2.2.2.2.2.2.2) ta (j + (tn - 16 - j)) 16 = 0 ↔ ¬ isN ta (opY x' y' fk fn ta txt j tn).2.2.2.2 (j + (tn - 16 - j)) 16 = 0 := by
  have h := open_tag x fa t p wo la b siz sm fk fn ta txt x' y' j tn hz ht hj
  rw [dif_zero, isN_zero]
  constructor
  · intro k q hq; rw [← h q hq]; exact k q hq
  · intro k q hq; rw [h q hq]; exact k q hq
theorem open_out (x : CS) (fa t p wo : Nat → Int64) (la b siz sm fk fn ta : Nat → Int32) (x' : MCS) (j tn : Nat) (hx : x.1 = x'.1) : (openC x fa t p wo la b siz sm fk fn ta j tn).1 = (opD x' fk fn ta j tn).1 := cover_eq _ _ fk fn ta j (tn - 16 - j) hx
/-- promise 6 -/
theorem no2_at (f : Nat → Int32) (b : Int64) : ∀ n q, no2 f b n q = if 4 ≤ q ∧ q < 4 + n then sB (lshr b (nI (56 - 8 * (q - 4)))).toInt32 else f q
  | 0, q => by rw [if_neg (by omega)]; rfl
  | n + 1, q => by
    show upd (no2 f b n) (4 + n) (sB (lshr b (nI (56 - 8 * n))).toInt32) q = _
    by_cases h : q = 4 + n
    · subst h; rw [upd_at, if_pos (by omega), Nat.add_sub_cancel_left]
    · rw [upd_ne h, no2_at f b n q]
      by_cases h2 : 4 ≤ q ∧ q < 4 + n
      · rw [if_pos h2, if_pos (by omega)]
      · rw [if_neg h2, if_neg (by omega)]
theorem lsh_byte (b : Int64) (k : Nat) (hk : k ≤ 56) (i : Nat) (hi : i < 8) : (lshr b (nI k)).toInt32.toBitVec.getLsbD i = b.toBitVec.getLsbD (k + i) := by
  rw [lo_bv, lshr_bv b k (by omega), BitVec.getLsbD_setWidth, BitVec.getLsbD_sshiftRight]
  have h1 : i < 32 := by omega
  have h2 : k + i < 64 := by omega
  have h3 : ¬ 64 ≤ i := by omega
  simp [h1, h2, h3]
theorem byte_lo (b : Int64) (k : Nat) (hk : k ≤ 24) : sB (ushr b.toInt32 (nI k)) = sB (lshr b (nI k)).toInt32 := by
  apply sB_eq
  apply BitVec.eq_of_getLsbD_eq
  intro i hi
  rw [BitVec.getLsbD_setWidth, BitVec.getLsbD_setWidth, lsh_byte b k (by omega) i hi, ushr_bv _ k (by omega), BitVec.getLsbD_ushiftRight, lo_bv, BitVec.getLsbD_setWidth]
  have h2 : k + i < 32 := by omega
  simp [h2]
theorem byte_hi (b : Int64) (k : Nat) (hk : k ≤ 24) : sB (ushr (lushr b 32).toInt32 (nI k)) = sB (lshr b (nI (32 + k))).toInt32 := by
  apply sB_eq
  apply BitVec.eq_of_getLsbD_eq
  intro i hi
  rw [BitVec.getLsbD_setWidth, BitVec.getLsbD_setWidth, lsh_byte b (32 + k) (by omega) i hi, ushr_bv _ k (by omega), BitVec.getLsbD_ushiftRight, lo_bv, BitVec.getLsbD_setWidth, show (lushr b 32) = lushr b (nI 32) from rfl, lushr_bv b 32 (by omega), BitVec.getLsbD_ushiftRight]
  have h2 : k + i < 32 := by omega
  simp [h2, Nat.add_assoc]
theorem wh_at0 (f : Nat → Int32) (k : Nat) (x : Int32) (j : Nat) : wh f k x j = if k ≤ j ∧ j < k + 4 then sB (ushr x (nI (24 - 8 * (j - k)))) else f j := by
  have e0 : sB x = sB (ushr x (nI 0)) := by
    apply sB_eq
    rw [ushr_bv x 0 (by omega)]
    rfl
  unfold wh
  by_cases h : k ≤ j ∧ j < k + 4
  · rw [if_pos h]
    have hc : j = k ∨ j = k + 1 ∨ j = k + 2 ∨ j = k + 3 := by omega
    rcases hc with rfl | rfl | rfl | rfl
    · rw [upd_ne (by omega), upd_ne (by omega), upd_ne (by omega), upd_at, show 24 - 8 * (j - j) = 24 by omega]; rfl
    · rw [upd_ne (by omega), upd_ne (by omega), upd_at, show 24 - 8 * (k + 1 - k) = 16 by omega]; rfl
    · rw [upd_ne (by omega), upd_at, show 24 - 8 * (k + 2 - k) = 8 by omega]; rfl
    · rw [upd_at, show 24 - 8 * (k + 3 - k) = 0 by omega, e0]
  · rw [if_neg h, upd_ne (by omega), upd_ne (by omega), upd_ne (by omega), upd_ne (by omega)]
theorem nonce_out (fn : Nat → Int32) (a : Int32) (b : Int64) : wh (wh (wh fn 0 a) 4 (lushr b 32).toInt32) 8 b.toInt32 = no2 (no1 fn a 4) b 8 := by
  have e1 : no1 fn a 4 = wh fn 0 a := by rw [wh_pw]; rfl
  rw [e1]
  funext q
  rw [no2_at, wh_at0 _ 8, wh_at0 _ 4]
  by_cases h8 : 8 ≤ q ∧ q < 8 + 4
  · rw [if_pos h8, if_pos (by omega), byte_lo b _ (by omega), show 24 - 8 * (q - 8) = 56 - 8 * (q - 4) by omega]
  · rw [if_neg h8]
    by_cases h4 : 4 ≤ q ∧ q < 4 + 4
    · rw [if_pos h4, if_pos (by omega), byte_hi b _ (by omega), show 32 + (24 - 8 * (q - 4)) = 56 - 8 * (q - 4) by omega]
    · rw [if_neg h4, if_neg (by omega)]
