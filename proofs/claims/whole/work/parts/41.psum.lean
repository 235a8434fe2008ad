/-! The two sums are one. -/
def Rel (t : Nat → Int64) (s : Nat → Int32) : Prop := ∃ (T : Nat → Nat) (v : Nat), okT t T ∧ okB T ∧ dg s v ∧ v < 2 ^ 130 ∧ V5 T % PRM = v % PRM
def Kel (r : Nat → Int64) (rM : Nat → Int32) : Prop := ∃ R Rd : Nat → Nat, okT r R ∧ (∀ i, i < 5 → R i < 2 ^ 26) ∧ rp rM Rd 16 ∧ (∀ k, k < 16 → Rd k < 256) ∧ V5 R = vN Rd 16
theorem BV_congr {g g' : Nat → Nat} {m : Nat} (h : ∀ k, k < m → g k = g' k) : BV g m = BV g' m := by
  apply vN_congr
  intro k _
  show (if k < m then g k else 0) + _ = (if k < m then g' k else 0) + _
  by_cases e : k < m
  · rw [if_pos e, if_pos e, h k e]
  · rw [if_neg e, if_neg e]
theorem rel_step {r : Nat → Int64} {rM : Nat → Int32} (hK : Kel r rM) (x : TPB) (z : SX) (row tx : Nat → Int32) (fr sz one a : Nat) (h : Rel x.1 z.1) (h1 : sz ≤ one) (h2 : one ≤ 16) (hb : ∀ k, k < one → (if k < sz then bN (row (fr + k)) else 0) = bN (tx (a + k))) : Rel (abkF r x row fr sz one).1 (sbF z rM tx a one).1 := by
  obtain ⟨R, Rd, k1, k2, k3, k4, k5⟩ := hK
  obtain ⟨T, v, e1, e2, e3, e4, e5⟩ := h
  obtain ⟨T', c1, c2, c3⟩ := stepC r x row fr sz one T R e1 e2 k1 k2 h1 h2
  obtain ⟨v', m1, m2, m3⟩ := stepM z rM tx Rd a one v e3 e4 k3 k4 h2
  refine ⟨T', v', c1, c2, m1, m2, ?_⟩
  rw [c3, m3, BV_congr hb, k5, Nat.mul_mod, Nat.add_mod, e5, ← Nat.add_mod, ← Nat.mul_mod]
theorem parts5_at (b : Nat → Int32) (f : Nat → Int64) : ∀ n i, parts5 b f n i = if i < n then bpart b i else f i
  | 0, i => by rw [if_neg (by omega)]; rfl
  | n + 1, i => by
    show vp_updL (parts5 b f n) n (bpart b n) i = _
    by_cases h : i = n
    · subst h; rw [updL_at, if_pos (by omega)]
    · rw [updL_ne h, parts5_at b f n i]
      by_cases h2 : i < n
      · rw [if_pos h2, if_pos (by omega)]
      · rw [if_neg h2, if_neg (by omega)]
theorem zeros5_at (f : Nat → Int64) : ∀ n i, zeros5 f n i = if i < n then 0 else f i
  | 0, i => by rw [if_neg (by omega)]; rfl
  | n + 1, i => by
    show vp_updL (zeros5 f n) n 0 i = _
    by_cases h : i = n
    · subst h; rw [updL_at, if_pos (by omega)]
    · rw [updL_ne h, zeros5_at f n i]
      by_cases h2 : i < n
      · rw [if_pos h2, if_pos (by omega)]
      · rw [if_neg h2, if_neg (by omega)]
theorem last4_at (k f : Nat → Int32) : ∀ n i, last4 k f n i = if i < n then rl k (16 + 4 * i) else f i
  | 0, i => by rw [if_neg (by omega)]; rfl
  | n + 1, i => by
    show upd (last4 k f n) n (rl k (16 + 4 * n)) i = _
    by_cases h : i = n
    · subst h; rw [upd_at, if_pos (by omega)]
    · rw [upd_ne h, last4_at k f n i]
      by_cases h2 : i < n
      · rw [if_pos h2, if_pos (by omega)]
      · rw [if_neg h2, if_neg (by omega)]
theorem rF_at (r b : Nat → Int32) : ∀ n k, rF r b n k = if k < n then b k &&& rmask k else r k
  | 0, k => by rw [if_neg (by omega)]; rfl
  | n + 1, k => by
    show upd (rF r b n) n (b n &&& rmask n) k = _
    by_cases h : k = n
    · subst h; rw [upd_at, if_pos (by omega)]
    · rw [upd_ne h, rF_at r b n k]
      by_cases h2 : k < n
      · rw [if_pos h2, if_pos (by omega)]
      · rw [if_neg h2, if_neg (by omega)]
theorem clamp3_at (b : Nat → Int32) : ∀ n j, clamp3 b n j = if j % 4 = 3 ∧ j < 3 + 4 * n then sB (b j &&& 15) else b j
  | 0, j => by rw [if_neg (by omega)]; rfl
  | n + 1, j => by
    show upd (clamp3 b n) (3 + 4 * n) (sB (clamp3 b n (3 + 4 * n) &&& 15)) j = _
    by_cases h : j = 3 + 4 * n
    · subst h; rw [upd_at, if_pos (by omega), clamp3_at b n (3 + 4 * n), if_neg (by omega)]
    · rw [upd_ne h, clamp3_at b n j]
      by_cases h2 : j % 4 = 3 ∧ j < 3 + 4 * n
      · rw [if_pos h2, if_pos (by omega)]
      · rw [if_neg h2, if_neg (by omega)]
theorem clamp4_at (b : Nat → Int32) : ∀ n j, clamp4 b n j = if j % 4 = 0 ∧ 4 ≤ j ∧ j < 4 + 4 * n then sB (b j &&& (-4)) else b j
  | 0, j => by rw [if_neg (by omega)]; rfl
  | n + 1, j => by
    show upd (clamp4 b n) (4 + 4 * n) (sB (clamp4 b n (4 + 4 * n) &&& (-4))) j = _
    by_cases h : j = 4 + 4 * n
    · subst h; rw [upd_at, if_pos (by omega), clamp4_at b n (4 + 4 * n), if_neg (by omega)]
    · rw [upd_ne h, clamp4_at b n j]
      by_cases h2 : j % 4 = 0 ∧ 4 ≤ j ∧ j < 4 + 4 * n
      · rw [if_pos h2, if_pos (by omega)]
      · rw [if_neg h2, if_neg (by omega)]
theorem kblk_255 (b key : Nat → Int32) (j : Nat) (hj : j < 16) : kblk b key j &&& 255 = key j &&& rmask j := by
  have e0 : upd (va_cpy key b 0 0 16) 16 0 j = key j := by
    rw [upd_ne (by omega)]
    unfold va_cpy
    rw [if_pos (by omega), Nat.zero_add, Nat.sub_zero]
  unfold kblk clampF rmask
  rw [clamp4_at, clamp3_at, e0]
  by_cases h3 : j % 4 = 3
  · rw [if_neg (by omega), if_pos (by omega), if_pos h3, sB_255, Int32.and_assoc]
    rfl
  · by_cases h4 : 0 < j ∧ j % 4 = 0
    · rw [if_pos (by omega), if_neg (by omega), if_neg h3, if_pos h4, sB_255, Int32.and_assoc]
      rfl
    · rw [if_neg (by omega), if_neg (by omega), if_neg h3, if_neg h4]
theorem kel_start (b key by_ : Nat → Int32) (fa : Nat → Int64) (r : Nat → Int32) (hk : ∀ j, j < 16 → key j = by_ j) : Kel (parts5 (kblk b key) fa 5) (rF r by_ 16) := by
  have h16 : bN (kblk b key 16) = 0 := by
    unfold kblk clampF
    rw [clamp4_at, clamp3_at, if_neg (by omega), if_neg (by omega), upd_at]
    decide
  refine ⟨BP (kblk b key), fun j => bN (kblk b key j), fun i hi => ?_, fun i _ => BP_lt _ i, fun k hk2 => ?_, fun k _ => bN_lt _, ?_⟩
  · rw [parts5_at, if_pos hi, bpart_num _ i hi]
  · rw [rF_at, if_pos hk2, ← hk k hk2, ← kblk_255 b key k hk2, bN_eq]
  · rw [BP_val _ (by rw [h16]; omega)]
    show vN (fun j => bN (kblk b key j)) 16 + bN (kblk b key 16) * 256 ^ 16 = _
    rw [h16]
    omega
theorem rel_start (t : Nat → Int64) (s : Nat → Int32) : Rel (zeros5 t 5) (zr0 s 17) := by
  refine ⟨fun _ => 0, 0, fun i hi => ?_, ⟨by decide, by decide, by decide, by decide, by decide⟩, fun k hk => ?_, by decide, rfl⟩
  · rw [zeros5_at, if_pos hi]; rfl
  · rw [zr0_at, if_pos hk, Nat.zero_div]; rfl
theorem LSm_val (key : Nat → Int32) : LSm (fun i => Wd key (16 + 4 * i)) = vN (fun k => bN (key (16 + k))) 16 := by
  show (bN (key 16) + bN (key 17) * 256 + bN (key 18) * 65536 + bN (key 19) * 16777216) + (bN (key 20) + bN (key 21) * 256 + bN (key 22) * 65536 + bN (key 23) * 16777216) * 4294967296 + (bN (key 24) + bN (key 25) * 256 + bN (key 26) * 65536 + bN (key 27) * 16777216) * 18446744073709551616 + (bN (key 28) + bN (key 29) * 256 + bN (key 30) * 65536 + bN (key 31) * 16777216) * 79228162514264337593543950336 = 0 + bN (key 16) * 256 ^ 0 + bN (key 17) * 256 ^ 1 + bN (key 18) * 256 ^ 2 + bN (key 19) * 256 ^ 3 + bN (key 20) * 256 ^ 4 + bN (key 21) * 256 ^ 5 + bN (key 22) * 256 ^ 6 + bN (key 23) * 256 ^ 7 + bN (key 24) * 256 ^ 8 + bN (key 25) * 256 ^ 9 + bN (key 26) * 256 ^ 10 + bN (key 27) * 256 ^ 11 + bN (key 28) * 256 ^ 12 + bN (key 29) * 256 ^ 13 + bN (key 30) * 256 ^ 14 + bN (key 31) * 256 ^ 15
  omega
/-- the bytes of the sum, out of related totals -/
theorem tag_eq (t p wo : Nat → Int64) (key by_ la row tx : Nat → Int32) (k n : Nat) (y : S5) (h : Rel t (smX y by_ tx n).1) (hk : ∀ j, j < 32 → key j = by_ j) : ∀ j, (foS (words4 (finT t p) wo) (last4 key la 4) row k 4).2 j = if k ≤ j ∧ j < k + 16 then (smF y by_ tx n).2.2.2.2 (j - k) else row j := by
  obtain ⟨T, v, e1, e2, e3, e4, e5⟩ := h
  obtain ⟨F, f1, f2, f3⟩ := fin_num t p T e1 e2
  intro j
  rw [tagC (finT t p) wo (last4 key la 4) row k F (fun i => Wd key (16 + 4 * i)) f1 f2 (fun i => Wd_lt _ _) (fun i hi => by rw [last4_at, if_pos hi]; exact rl_num _ _) j]
  by_cases e : k ≤ j ∧ j < k + 16
  · rw [if_pos e, if_pos e, tagM y by_ tx n v e3 e4 (j - k), if_pos (by omega), f3, e5, LSm_val, vN_congr (g := fun i => bN (by_ (16 + i))) 16 (fun i hi => by show bN (key (16 + i)) = _; rw [hk (16 + i) (by omega)])]
  · rw [if_neg e, if_neg e]
/-- promise 8 -/
theorem sum_out (fa t p wo : Nat → Int64) (la b fk ta o txt : Nat → Int32) (y : S5) (tn : Nat) : (foS (words4 (finT (sumX fa t p b fk ta tn).1 (sumX fa t p b fk ta tn).2.1) wo) (last4 fk la 4) o 0 4).2 = cpT o (smF y fk (cp0 txt ta tn) tn).2.2.2.2 0 16 := by
  have hrel : ∀ i, i ≤ (tn + 15) / 16 → Rel (paddF (parts5 (kblk b fk) fa 5) (ps0 t p b fk) ta 0 tn i).1 (sbN (zr0 y.2.1 17, y.2.2.1, y.2.2.2.1) (rF y.1 fk 16) (cp0 txt ta tn) tn i).1 := by
    intro i
    induction i with
    | zero => intro _; exact rel_start t y.2.1
    | succ i ih =>
      intro hi
      refine rel_step (kel_start b fk fk fa y.1 (fun _ _ => rfl)) _ _ ta (cp0 txt ta tn) (0 + 16 * i) (min 16 (tn - 16 * i)) (min 16 (tn - 16 * i)) (16 * i) (ih (by omega)) (Nat.le_refl _) (by omega) (fun k hk => ?_)
      rw [if_pos hk, cp0_at, if_pos (by omega), Nat.zero_add]
  funext j
  have hr : Rel (sumX fa t p b fk ta tn).1 (smX y fk (cp0 txt ta tn) tn).1 := hrel _ (Nat.le_refl _)
  rw [tag_eq (sumX fa t p b fk ta tn).1 (sumX fa t p b fk ta tn).2.1 wo fk fk la o (cp0 txt ta tn) 0 tn y hr (fun _ _ => rfl) j, cpT_at]
