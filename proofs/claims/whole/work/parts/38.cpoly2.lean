/-! The class's Poly1305: one block, and the end. -/
theorem V5_add (T B : Nat → Nat) : V5 (fun i => T i + B i) = V5 T + V5 B := by
  show (T 0 + B 0) + (T 1 + B 1) * 67108864 + (T 2 + B 2) * 4503599627370496 + (T 3 + B 3) * 302231454903657293676544 + (T 4 + B 4) * 20282409603651670423947251286016 = (T 0 + T 1 * 67108864 + T 2 * 4503599627370496 + T 3 * 302231454903657293676544 + T 4 * 20282409603651670423947251286016) + (B 0 + B 1 * 67108864 + B 2 * 4503599627370496 + B 3 * 302231454903657293676544 + B 4 * 20282409603651670423947251286016)
  omega
theorem filB_at (f : Nat → Int32) (v : Int32) : ∀ n j, filB f v n j = if j < n then v else f j
  | 0, j => by rw [if_neg (by omega)]; rfl
  | n + 1, j => by
    show upd (filB f v n) n v j = _
    by_cases h : j = n
    · subst h; rw [upd_at, if_pos (by omega)]
    · rw [upd_ne h, filB_at f v n j]
      by_cases h2 : j < n
      · rw [if_pos h2, if_pos (by omega)]
      · rw [if_neg h2, if_neg (by omega)]
theorem blk_num (b row : Nat → Int32) (fr sz one : Nat) (h1 : sz ≤ one) (k : Nat) (hk : k < 17) : bN (blkF b row fr sz one k) = (if k < one then (if k < sz then bN (row (fr + k)) else 0) else 0) + 1 * (if k = one then 1 else 0) := by
  unfold blkF
  by_cases e : k = one
  · subst e
    rw [upd_at, if_neg (by omega), if_pos rfl]
    decide
  · rw [upd_ne e, if_neg e]
    unfold va_cpy
    by_cases e2 : k < sz
    · rw [if_pos (by omega), if_pos (by omega), if_pos e2, Nat.sub_zero]
      omega
    · rw [if_neg (by omega), filB_at, if_pos hk]
      by_cases e3 : k < one
      · rw [if_pos e3, if_neg e2]; decide
      · rw [if_neg e3]; decide
theorem blk_val (b row : Nat → Int32) (fr sz one : Nat) (h1 : sz ≤ one) (h2 : one ≤ 16) : V5 (BP (blkF b row fr sz one)) = BV (fun k => if k < sz then bN (row (fr + k)) else 0) one := by
  have h16 : bN (blkF b row fr sz one 16) ≤ 3 := by
    rw [blk_num b row fr sz one h1 16 (by decide), if_neg (by omega)]
    split <;> omega
  rw [BP_val _ h16]
  exact vN_congr 17 (fun k hk => blk_num b row fr sz one h1 k hk)
theorem PN_lt (T R : Nat → Nat) (hT : ∀ i, i < 5 → T i < 2 ^ 28) (hR : ∀ i, i < 5 → R i < 2 ^ 26) : ∀ i, i < 5 → PN T R i < 2 ^ 62 := by
  have hm : ∀ i j, i < 5 → j < 5 → T i * R j ≤ 2 ^ 28 * 2 ^ 26 := fun i j hi hj => Nat.mul_le_mul (by have := hT i hi; omega) (by have := hR j hj; omega)
  have m00 := hm 0 0 (by decide) (by decide)
  have m01 := hm 0 1 (by decide) (by decide)
  have m02 := hm 0 2 (by decide) (by decide)
  have m03 := hm 0 3 (by decide) (by decide)
  have m04 := hm 0 4 (by decide) (by decide)
  have m10 := hm 1 0 (by decide) (by decide)
  have m11 := hm 1 1 (by decide) (by decide)
  have m12 := hm 1 2 (by decide) (by decide)
  have m13 := hm 1 3 (by decide) (by decide)
  have m14 := hm 1 4 (by decide) (by decide)
  have m20 := hm 2 0 (by decide) (by decide)
  have m21 := hm 2 1 (by decide) (by decide)
  have m22 := hm 2 2 (by decide) (by decide)
  have m23 := hm 2 3 (by decide) (by decide)
  have m24 := hm 2 4 (by decide) (by decide)
  have m30 := hm 3 0 (by decide) (by decide)
  have m31 := hm 3 1 (by decide) (by decide)
  have m32 := hm 3 2 (by decide) (by decide)
  have m33 := hm 3 3 (by decide) (by decide)
  have m34 := hm 3 4 (by decide) (by decide)
  have m40 := hm 4 0 (by decide) (by decide)
  have m41 := hm 4 1 (by decide) (by decide)
  have m42 := hm 4 2 (by decide) (by decide)
  have m43 := hm 4 3 (by decide) (by decide)
  have m44 := hm 4 4 (by decide) (by decide)
  apply l5
  · show T 0 * R 0 + 5 * (T 1 * R 4 + T 2 * R 3 + T 3 * R 2 + T 4 * R 1) < _; omega
  · show T 0 * R 1 + T 1 * R 0 + 5 * (T 2 * R 4 + T 3 * R 3 + T 4 * R 2) < _; omega
  · show T 0 * R 2 + T 1 * R 1 + T 2 * R 0 + 5 * (T 3 * R 4 + T 4 * R 3) < _; omega
  · show T 0 * R 3 + T 1 * R 2 + T 2 * R 1 + T 3 * R 0 + 5 * (T 4 * R 4) < _; omega
  · show T 0 * R 4 + T 1 * R 3 + T 2 * R 2 + T 3 * R 1 + T 4 * R 0 < _; omega
/-- one block of the class -/
theorem stepC (r : Nat → Int64) (x : TPB) (row : Nat → Int32) (fr sz one : Nat) (T R : Nat → Nat) (ht : okT x.1 T) (hT : okB T) (hr : okT r R) (hR : ∀ i, i < 5 → R i < 2 ^ 26) (h1 : sz ≤ one) (h2 : one ≤ 16) :
    ∃ T' : Nat → Nat, okT (abkF r x row fr sz one).1 T' ∧ okB T' ∧ V5 T' % PRM = ((V5 T + BV (fun k => if k < sz then bN (row (fr + k)) else 0) one) * V5 R) % PRM := by
  rw [abkF_eq]
  have hb := BP_lt (blkF x.2.2 row fr sz one)
  have ha := addp_num (blkF x.2.2 row fr sz one) x.1 T ht
  have hm := mul_num _ r x.2.1 _ R ha hr
  have hP := PN_lt (fun i => T i + BP (blkF x.2.2 row fr sz one) i) R (by
    obtain ⟨t0, t1, t2, t3, t4⟩ := hT
    apply l5
    · have := hb 0; show T 0 + _ < _; omega
    · have := hb 1; show T 1 + _ < _; omega
    · have := hb 2; show T 2 + _ < _; omega
    · have := hb 3; show T 3 + _ < _; omega
    · have := hb 4; show T 4 + _ < _; omega) hR
  have hv := V5_mul (fun i => T i + BP (blkF x.2.2 row fr sz one) i) R
  rw [V5_add, blk_val _ row fr sz one h1 h2] at hv
  show ∃ T' : Nat → Nat, okT (car (car (va_cpy (mulP (addp (blkF x.2.2 row fr sz one) x.1 5) r x.2.1 5) (addp (blkF x.2.2 row fr sz one) x.1 5) 0 0 5))) T' ∧ _ ∧ _
  generalize PN (fun i => T i + BP (blkF x.2.2 row fr sz one) i) R = P at hm hP hv
  have hc : okT (va_cpy (mulP (addp (blkF x.2.2 row fr sz one) x.1 5) r x.2.1 5) (addp (blkF x.2.2 row fr sz one) x.1 5) 0 0 5) P := by
    intro i hi
    unfold va_cpy
    rw [if_pos (by omega), Nat.zero_add, Nat.sub_zero]
    exact hm i hi
  refine ⟨carN (carN P), car_num _ _ (car_num _ _ hc hP) (carN_lt P hP), car2_ok P hP, ?_⟩
  obtain ⟨q, hq⟩ := hv
  have v1 := car_val P
  have v2 := car_val (carN P)
  rw [← hq, ← v1, ← v2, Nat.add_mul_mod_self_right, Nat.add_mul_mod_self_right, Nat.add_mul_mod_self_right]
def tO (T : Nat → Nat) : Nat → Nat
  | 0 => 5
  | i + 1 => (T i + tO T i) / 67108864
theorem tO_lt (T : Nat → Nat) (h : ∀ i, i < 5 → T i < 67108864) : ∀ n, n ≤ 5 → tO T n ≤ 5
  | 0, _ => Nat.le_refl 5
  | n + 1, hn => by
    have h1 := tO_lt T h n (by omega)
    have h2 := h n (by omega)
    show (T n + tO T n) / 67108864 ≤ 5
    omega
theorem tp_num (t p : Nat → Int64) (T : Nat → Nat) (ht : okT t T) (h : ∀ i, i < 5 → T i < 67108864) : ∀ n, n ≤ 5 → tpO t n = lN (tO T n) ∧ ∀ i, i < n → tpP t p n i = lN ((T i + tO T i) % 67108864)
  | 0, _ => ⟨rfl, fun i hi => by omega⟩
  | n + 1, hn => by
    obtain ⟨h1, h2⟩ := tp_num t p T ht h n (by omega)
    have hc := tO_lt T h n (by omega)
    have hp := h n (by omega)
    have ev : t n + tpO t n = lN (T n + tO T n) := by rw [h1, ht n (by omega), lN_add]
    refine ⟨?_, fun i hi => ?_⟩
    · show lushr (t n + tpO t n) (nI 26) = _
      rw [ev, lN_ushr (by omega) (by decide)]
      rfl
    · show vp_updL (tpP t p n) n ((t n + tpO t n) &&& 67108863) i = _
      by_cases e : i = n
      · subst e; rw [updL_at, ev, lN_m26 (by omega)]
      · rw [updL_ne e]; exact h2 i (by omega)
/-- the class's total at the end: below the prime, in parts of 26 bits -/
theorem fin_num (t p : Nat → Int64) (T : Nat → Nat) (ht : okT t T) (hT : okB T) : ∃ F : Nat → Nat, okT (finT t p) F ∧ (∀ i, i < 5 → F i < 67108864) ∧ V5 F = V5 T % PRM := by
  obtain ⟨t0, t1, t2, t3, t4⟩ := hT
  have hb : ∀ i, i < 5 → T i < 2 ^ 62 := l5 (by omega) (by omega) (by omega) (by omega) (by omega)
  have hc := car_num t T ht hb
  have hv := car_val T
  have hl : ∀ i, i < 5 → carN T i < 67108864 := by
    refine l5 (P := fun i => carN T i < 67108864) ?_ (Nat.mod_lt _ (by decide)) (Nat.mod_lt _ (by decide)) (Nat.mod_lt _ (by decide)) (Nat.mod_lt _ (by decide))
    have e1 : cO T 1 = T 0 / 67108864 := rfl
    have e2 : cO T 2 = (T 1 + cO T 1) / 67108864 := rfl
    have e3 : cO T 3 = (T 2 + cO T 2) / 67108864 := rfl
    have e4 : cO T 4 = (T 3 + cO T 3) / 67108864 := rfl
    have e5 : cO T 5 = (T 4 + cO T 4) / 67108864 := rfl
    show T 0 % 67108864 + 5 * cO T 5 < 67108864
    omega
  generalize carN T = C at hc hv hl
  have hm : V5 T % PRM = V5 C % PRM := by rw [← hv, Nat.add_mul_mod_self_right]
  rw [hm]
  have l0 := hl 0 (by decide)
  have l1 := hl 1 (by decide)
  have l2 := hl 2 (by decide)
  have l3 := hl 3 (by decide)
  have l4 := hl 4 (by decide)
  obtain ⟨o5, hp5⟩ := tp_num (car t) p C hc hl 5 (by decide)
  have e1 : tO C 1 = (C 0 + 5) / 67108864 := rfl
  have e2 : tO C 2 = (C 1 + tO C 1) / 67108864 := rfl
  have e3 : tO C 3 = (C 2 + tO C 2) / 67108864 := rfl
  have e4 : tO C 4 = (C 3 + tO C 3) / 67108864 := rfl
  have e5 : tO C 5 = (C 4 + tO C 4) / 67108864 := rfl
  have hVC : V5 C = C 0 + C 1 * 67108864 + C 2 * 4503599627370496 + C 3 * 302231454903657293676544 + C 4 * 20282409603651670423947251286016 := rfl
  show ∃ F : Nat → Nat, okT (tpT (car t) p) F ∧ _ ∧ _
  unfold tpT
  rw [o5]
  by_cases hz : tO C 5 = 0
  · rw [hz, if_pos (by decide)]
    refine ⟨C, hc, hl, ?_⟩
    rw [Nat.mod_eq_of_lt]
    rw [PRM_n, hVC]
    omega
  · have h1 : tO C 5 = 1 := by omega
    rw [h1, if_neg (by decide)]
    refine ⟨fun i => (C i + tO C i) % 67108864, ?_, fun i _ => Nat.mod_lt _ (by decide), ?_⟩
    · intro i hi
      unfold va_cpy
      rw [if_pos (by omega), Nat.zero_add, Nat.sub_zero]
      exact hp5 i hi
    · have hs : V5 (fun i => (C i + tO C i) % 67108864) + PRM = V5 C := by
        rw [PRM_n, hVC]
        show (C 0 + 5) % 67108864 + (C 1 + tO C 1) % 67108864 * 67108864 + (C 2 + tO C 2) % 67108864 * 4503599627370496 + (C 3 + tO C 3) % 67108864 * 302231454903657293676544 + (C 4 + tO C 4) % 67108864 * 20282409603651670423947251286016 + _ = _
        omega
      rw [← hs, Nat.add_mod_right, Nat.mod_eq_of_lt]
      rw [PRM_n] at hs ⊢
      omega
