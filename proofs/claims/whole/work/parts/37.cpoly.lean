/-! The class's Poly1305 in numbers. -/
theorem PRM_n : PRM = 1361129467683753853853498429727072845819 := by decide
def V5 (T : Nat → Nat) : Nat := T 0 + T 1 * 67108864 + T 2 * 4503599627370496 + T 3 * 302231454903657293676544 + T 4 * 20282409603651670423947251286016
def okT (t : Nat → Int64) (T : Nat → Nat) : Prop := ∀ i, i < 5 → t i = lN (T i)
theorem l5 {P : Nat → Prop} (h0 : P 0) (h1 : P 1) (h2 : P 2) (h3 : P 3) (h4 : P 4) : ∀ j, j < 5 → P j := by
  intro j hj
  have h : j = 0 ∨ j = 1 ∨ j = 2 ∨ j = 3 ∨ j = 4 := by omega
  rcases h with rfl | rfl | rfl | rfl | rfl <;> assumption
def Wd (b : Nat → Int32) (q : Nat) : Nat := bN (b q) + bN (b (q + 1)) * 256 + bN (b (q + 2)) * 65536 + bN (b (q + 3)) * 16777216
theorem Wd_lt (b : Nat → Int32) (q : Nat) : Wd b q < 4294967296 := by
  have h0 := bN_lt (b q)
  have h1 := bN_lt (b (q + 1))
  have h2 := bN_lt (b (q + 2))
  have h3 := bN_lt (b (q + 3))
  unfold Wd
  omega
def BP (b : Nat → Int32) (i : Nat) : Nat := Wd b (26 * i / 8) / 2 ^ (26 * i % 8) % 67108864
theorem bpart_num (b : Nat → Int32) (i : Nat) (hi : i < 5) : bpart b i = lN (BP b i) := by
  have hw := Wd_lt b (26 * i / 8)
  show lushr (zx (rl b (26 * i / 8))) (nI (26 * i) &&& 7) &&& 67108863 = _
  have e7 : nI (26 * i) &&& 7 = nI (26 * i % 2 ^ 3) := pk_andN (by omega) 3 (by decide)
  have er : rl b (26 * i / 8) = nI (Wd b (26 * i / 8)) := rl_num b _
  rw [er, zx_nI hw, e7]
  show lushr (lN (Wd b (26 * i / 8))) (nI (26 * i % 8)) &&& 67108863 = _
  rw [lN_ushr (by omega) (by omega), lN_m26 (Nat.lt_of_le_of_lt (Nat.div_le_self _ _) (by omega))]
  rfl
theorem BP_val (b : Nat → Int32) (h : bN (b 16) ≤ 3) : V5 (BP b) = vN (fun j => bN (b j)) 17 := by
  have y0 := bN_lt (b 0)
  have y1 := bN_lt (b 1)
  have y2 := bN_lt (b 2)
  have y3 := bN_lt (b 3)
  have y4 := bN_lt (b 4)
  have y5 := bN_lt (b 5)
  have y6 := bN_lt (b 6)
  have y7 := bN_lt (b 7)
  have y8 := bN_lt (b 8)
  have y9 := bN_lt (b 9)
  have y10 := bN_lt (b 10)
  have y11 := bN_lt (b 11)
  have y12 := bN_lt (b 12)
  have y13 := bN_lt (b 13)
  have y14 := bN_lt (b 14)
  have y15 := bN_lt (b 15)
  have p0 : BP b 0 = bN (b 0) + bN (b 1) * 256 + bN (b 2) * 65536 + bN (b 3) % 4 * 16777216 := by
    show (bN (b 0) + bN (b 1) * 256 + bN (b 2) * 65536 + bN (b 3) * 16777216) / 1 % 67108864 = _
    omega
  have p1 : BP b 1 = bN (b 3) / 4 + bN (b 4) * 64 + bN (b 5) * 16384 + bN (b 6) % 16 * 4194304 := by
    show (bN (b 3) + bN (b 4) * 256 + bN (b 5) * 65536 + bN (b 6) * 16777216) / 4 % 67108864 = _
    omega
  have p2 : BP b 2 = bN (b 6) / 16 + bN (b 7) * 16 + bN (b 8) * 4096 + bN (b 9) % 64 * 1048576 := by
    show (bN (b 6) + bN (b 7) * 256 + bN (b 8) * 65536 + bN (b 9) * 16777216) / 16 % 67108864 = _
    omega
  have p3 : BP b 3 = bN (b 9) / 64 + bN (b 10) * 4 + bN (b 11) * 1024 + bN (b 12) * 262144 := by
    show (bN (b 9) + bN (b 10) * 256 + bN (b 11) * 65536 + bN (b 12) * 16777216) / 64 % 67108864 = _
    omega
  have p4 : BP b 4 = bN (b 13) + bN (b 14) * 256 + bN (b 15) * 65536 + bN (b 16) * 16777216 := by
    show (bN (b 13) + bN (b 14) * 256 + bN (b 15) * 65536 + bN (b 16) * 16777216) / 1 % 67108864 = _
    omega
  unfold V5
  rw [p0, p1, p2, p3, p4]
  show _ = 0 + bN (b 0) * 256 ^ 0 + bN (b 1) * 256 ^ 1 + bN (b 2) * 256 ^ 2 + bN (b 3) * 256 ^ 3 + bN (b 4) * 256 ^ 4 + bN (b 5) * 256 ^ 5 + bN (b 6) * 256 ^ 6 + bN (b 7) * 256 ^ 7 + bN (b 8) * 256 ^ 8 + bN (b 9) * 256 ^ 9 + bN (b 10) * 256 ^ 10 + bN (b 11) * 256 ^ 11 + bN (b 12) * 256 ^ 12 + bN (b 13) * 256 ^ 13 + bN (b 14) * 256 ^ 14 + bN (b 15) * 256 ^ 15 + bN (b 16) * 256 ^ 16
  omega
theorem BP_lt (b : Nat → Int32) (i : Nat) : BP b i < 67108864 := Nat.mod_lt _ (by decide)
theorem addp_at (b : Nat → Int32) (t : Nat → Int64) : ∀ n i, addp b t n i = if i < n then t i + bpart b i else t i
  | 0, i => by rw [if_neg (by omega)]; rfl
  | n + 1, i => by
    show vp_updL (addp b t n) n (addp b t n n + bpart b n) i = _
    by_cases h : i = n
    · subst h; rw [updL_at, if_pos (by omega), addp_at b t i i, if_neg (by omega)]
    · rw [updL_ne h, addp_at b t n i]
      by_cases h2 : i < n
      · rw [if_pos h2, if_pos (by omega)]
      · rw [if_neg h2, if_neg (by omega)]
theorem addp_num (b : Nat → Int32) (t : Nat → Int64) (T : Nat → Nat) (h : okT t T) : okT (addp b t 5) (fun i => T i + BP b i) := by
  intro i hi
  rw [addp_at, if_pos hi, h i hi, bpart_num b i hi, lN_add]
def PN (T R : Nat → Nat) (i : Nat) : Nat := match i with
  | 0 => T 0 * R 0 + 5 * (T 1 * R 4 + T 2 * R 3 + T 3 * R 2 + T 4 * R 1)
  | 1 => T 0 * R 1 + T 1 * R 0 + 5 * (T 2 * R 4 + T 3 * R 3 + T 4 * R 2)
  | 2 => T 0 * R 2 + T 1 * R 1 + T 2 * R 0 + 5 * (T 3 * R 4 + T 4 * R 3)
  | 3 => T 0 * R 3 + T 1 * R 2 + T 2 * R 1 + T 3 * R 0 + 5 * (T 4 * R 4)
  | _ => T 0 * R 4 + T 1 * R 3 + T 2 * R 2 + T 3 * R 1 + T 4 * R 0
theorem mul_num (t r p : Nat → Int64) (T R : Nat → Nat) (ht : okT t T) (hr : okT r R) : okT (mulP t r p 5) (PN T R) := by
  have t0 := ht 0 (by decide)
  have t1 := ht 1 (by decide)
  have t2 := ht 2 (by decide)
  have t3 := ht 3 (by decide)
  have t4 := ht 4 (by decide)
  have r0 := hr 0 (by decide)
  have r1 := hr 1 (by decide)
  have r2 := hr 2 (by decide)
  have r3 := hr 3 (by decide)
  have r4 := hr 4 (by decide)
  apply l5
  · show (lN 0 + t 0 * r 0) + lN 5 * (lN 0 + t 1 * r 4 + t 2 * r 3 + t 3 * r 2 + t 4 * r 1) = lN (T 0 * R 0 + 5 * (T 1 * R 4 + T 2 * R 3 + T 3 * R 2 + T 4 * R 1))
    rw [t0, t1, t2, t3, t4, r0, r1, r2, r3, r4]
    simp only [lN_mul, lN_add, Nat.zero_add]
  · show (lN 0 + t 0 * r 1 + t 1 * r 0) + lN 5 * (lN 0 + t 2 * r 4 + t 3 * r 3 + t 4 * r 2) = lN (T 0 * R 1 + T 1 * R 0 + 5 * (T 2 * R 4 + T 3 * R 3 + T 4 * R 2))
    rw [t0, t1, t2, t3, t4, r0, r1, r2, r3, r4]
    simp only [lN_mul, lN_add, Nat.zero_add]
  · show (lN 0 + t 0 * r 2 + t 1 * r 1 + t 2 * r 0) + lN 5 * (lN 0 + t 3 * r 4 + t 4 * r 3) = lN (T 0 * R 2 + T 1 * R 1 + T 2 * R 0 + 5 * (T 3 * R 4 + T 4 * R 3))
    rw [t0, t1, t2, t3, t4, r0, r1, r2, r3, r4]
    simp only [lN_mul, lN_add, Nat.zero_add]
  · show (lN 0 + t 0 * r 3 + t 1 * r 2 + t 2 * r 1 + t 3 * r 0) + lN 5 * (lN 0 + t 4 * r 4) = lN (T 0 * R 3 + T 1 * R 2 + T 2 * R 1 + T 3 * R 0 + 5 * (T 4 * R 4))
    rw [t0, t1, t2, t3, t4, r0, r1, r2, r3, r4]
    simp only [lN_mul, lN_add, Nat.zero_add]
  · show (lN 0 + t 0 * r 4 + t 1 * r 3 + t 2 * r 2 + t 3 * r 1 + t 4 * r 0) + lN 5 * lN 0 = lN (T 0 * R 4 + T 1 * R 3 + T 2 * R 2 + T 3 * R 1 + T 4 * R 0)
    rw [t0, t1, t2, t3, t4, r0, r1, r2, r3, r4]
    simp only [lN_mul, lN_add, Nat.zero_add]
    rfl
theorem mm4 (a b c d : Nat) : a * b * (c * d) = a * c * (b * d) := by ac_rfl
theorem mm3 (a c d : Nat) : a * (c * d) = a * c * d := by ac_rfl
theorem mm3' (a b c : Nat) : a * b * c = a * c * b := by ac_rfl
theorem V5_mul (T R : Nat → Nat) : ∃ q, V5 (PN T R) + q * PRM = V5 T * V5 R := by
  rw [PRM_n]
  refine ⟨(T 1 * R 4 + T 2 * R 3 + T 3 * R 2 + T 4 * R 1) + (T 2 * R 4 + T 3 * R 3 + T 4 * R 2) * 67108864 + (T 3 * R 4 + T 4 * R 3) * 4503599627370496 + T 4 * R 4 * 302231454903657293676544, ?_⟩
  show (T 0 * R 0 + 5 * (T 1 * R 4 + T 2 * R 3 + T 3 * R 2 + T 4 * R 1)) + (T 0 * R 1 + T 1 * R 0 + 5 * (T 2 * R 4 + T 3 * R 3 + T 4 * R 2)) * 67108864 + (T 0 * R 2 + T 1 * R 1 + T 2 * R 0 + 5 * (T 3 * R 4 + T 4 * R 3)) * 4503599627370496 + (T 0 * R 3 + T 1 * R 2 + T 2 * R 1 + T 3 * R 0 + 5 * (T 4 * R 4)) * 302231454903657293676544 + (T 0 * R 4 + T 1 * R 3 + T 2 * R 2 + T 3 * R 1 + T 4 * R 0) * 20282409603651670423947251286016 + _ = (T 0 + T 1 * 67108864 + T 2 * 4503599627370496 + T 3 * 302231454903657293676544 + T 4 * 20282409603651670423947251286016) * (R 0 + R 1 * 67108864 + R 2 * 4503599627370496 + R 3 * 302231454903657293676544 + R 4 * 20282409603651670423947251286016)
  have e : ∀ (a0 a1 a2 a3 a4 b0 b1 b2 b3 b4 k1 k2 k3 k4 : Nat), (a0 + a1 * k1 + a2 * k2 + a3 * k3 + a4 * k4) * (b0 + b1 * k1 + b2 * k2 + b3 * k3 + b4 * k4) = a0 * b0 + a0 * b1 * k1 + a0 * b2 * k2 + a0 * b3 * k3 + a0 * b4 * k4 + (a1 * b0 * k1 + a1 * b1 * (k1 * k1) + a1 * b2 * (k1 * k2) + a1 * b3 * (k1 * k3) + a1 * b4 * (k1 * k4)) + (a2 * b0 * k2 + a2 * b1 * (k2 * k1) + a2 * b2 * (k2 * k2) + a2 * b3 * (k2 * k3) + a2 * b4 * (k2 * k4)) + (a3 * b0 * k3 + a3 * b1 * (k3 * k1) + a3 * b2 * (k3 * k2) + a3 * b3 * (k3 * k3) + a3 * b4 * (k3 * k4)) + (a4 * b0 * k4 + a4 * b1 * (k4 * k1) + a4 * b2 * (k4 * k2) + a4 * b3 * (k4 * k3) + a4 * b4 * (k4 * k4)) := by
    intro a0 a1 a2 a3 a4 b0 b1 b2 b3 b4 k1 k2 k3 k4
    simp only [Nat.add_mul, Nat.mul_add]
    rw [mm4 a1 k1 b1 k1, mm4 a1 k1 b2 k2, mm4 a1 k1 b3 k3, mm4 a1 k1 b4 k4, mm4 a2 k2 b1 k1, mm4 a2 k2 b2 k2, mm4 a2 k2 b3 k3, mm4 a2 k2 b4 k4, mm4 a3 k3 b1 k1, mm4 a3 k3 b2 k2, mm4 a3 k3 b3 k3, mm4 a3 k3 b4 k4, mm4 a4 k4 b1 k1, mm4 a4 k4 b2 k2, mm4 a4 k4 b3 k3, mm4 a4 k4 b4 k4, mm3 a0 b1 k1, mm3 a0 b2 k2, mm3 a0 b3 k3, mm3 a0 b4 k4, mm3' a1 k1 b0, mm3' a2 k2 b0, mm3' a3 k3 b0, mm3' a4 k4 b0]
    omega
  rw [e]
  generalize T 0 * R 0 = x00
  generalize T 0 * R 1 = x01
  generalize T 0 * R 2 = x02
  generalize T 0 * R 3 = x03
  generalize T 0 * R 4 = x04
  generalize T 1 * R 0 = x10
  generalize T 1 * R 1 = x11
  generalize T 1 * R 2 = x12
  generalize T 1 * R 3 = x13
  generalize T 1 * R 4 = x14
  generalize T 2 * R 0 = x20
  generalize T 2 * R 1 = x21
  generalize T 2 * R 2 = x22
  generalize T 2 * R 3 = x23
  generalize T 2 * R 4 = x24
  generalize T 3 * R 0 = x30
  generalize T 3 * R 1 = x31
  generalize T 3 * R 2 = x32
  generalize T 3 * R 3 = x33
  generalize T 3 * R 4 = x34
  generalize T 4 * R 0 = x40
  generalize T 4 * R 1 = x41
  generalize T 4 * R 2 = x42
  generalize T 4 * R 3 = x43
  generalize T 4 * R 4 = x44
  omega
def cO (P : Nat → Nat) : Nat → Nat
  | 0 => 0
  | i + 1 => (P i + cO P i) / 67108864
theorem cO_lt (P : Nat → Nat) (h : ∀ i, i < 5 → P i < 2 ^ 62) : ∀ n, n ≤ 5 → cO P n < 2 ^ 37
  | 0, _ => by show 0 < _; omega
  | n + 1, hn => by
    have h1 := cO_lt P h n (by omega)
    have h2 := h n (by omega)
    show (P n + cO P n) / 67108864 < _
    omega
theorem carS_num (t : Nat → Int64) (P : Nat → Nat) (ht : okT t P) (hb : ∀ i, i < 5 → P i < 2 ^ 62) : ∀ n, n ≤ 5 → (carS t n).1 = lN (cO P n) ∧ okT (carS t n).2 (fun i => if i < n then (P i + cO P i) % 67108864 else P i)
  | 0, _ => ⟨rfl, fun i hi => by show t i = lN (if i < 0 then _ else P i); rw [if_neg (by omega)]; exact ht i hi⟩
  | n + 1, hn => by
    obtain ⟨h1, h2⟩ := carS_num t P ht hb n (by omega)
    have hc := cO_lt P hb n (by omega)
    have hp := hb n (by omega)
    have ev : (carS t n).2 n + (carS t n).1 = lN (P n + cO P n) := by
      rw [h1, h2 n (by omega)]
      show lN (if n < n then _ else P n) + _ = _
      rw [if_neg (by omega), lN_add]
    refine ⟨?_, ?_⟩
    · show lushr ((carS t n).2 n + (carS t n).1) (nI 26) = _
      rw [ev, lN_ushr (by omega) (by decide)]
      rfl
    · intro i hi
      show vp_updL (carS t n).2 n (((carS t n).2 n + (carS t n).1) &&& 67108863) i = lN (if i < n + 1 then (P i + cO P i) % 67108864 else P i)
      by_cases e : i = n
      · subst e
        rw [updL_at, ev, lN_m26 (by omega), if_pos (by omega)]
      · rw [updL_ne e, h2 i hi]
        show lN (if i < n then _ else P i) = _
        by_cases e2 : i < n
        · rw [if_pos e2, if_pos (by omega)]
        · rw [if_neg e2, if_neg (by omega)]
def carN (P : Nat → Nat) (i : Nat) : Nat := if i = 0 then P 0 % 67108864 + 5 * cO P 5 else (P i + cO P i) % 67108864
theorem car_num (t : Nat → Int64) (P : Nat → Nat) (ht : okT t P) (hb : ∀ i, i < 5 → P i < 2 ^ 62) : okT (car t) (carN P) := by
  obtain ⟨h1, h2⟩ := carS_num t P ht hb 5 (by decide)
  intro i hi
  show vp_updL (carS t 5).2 0 ((carS t 5).2 0 + lN 5 * (carS t 5).1) i = lN (carN P i)
  unfold carN
  by_cases e : i = 0
  · subst e
    rw [updL_at, h1, h2 0 (by decide), if_pos rfl]
    show lN (if 0 < 5 then (P 0 + cO P 0) % 67108864 else P 0) + _ = _
    rw [if_pos (by decide), lN_mul, lN_add]
    rfl
  · rw [updL_ne e, h2 i hi, if_neg e]
    show lN (if i < 5 then _ else _) = _
    rw [if_pos hi]
theorem car_val (P : Nat → Nat) : V5 (carN P) + cO P 5 * PRM = V5 P := by
  rw [PRM_n]
  have e1 : cO P 1 = P 0 / 67108864 := rfl
  have e2 : cO P 2 = (P 1 + cO P 1) / 67108864 := rfl
  have e3 : cO P 3 = (P 2 + cO P 2) / 67108864 := rfl
  have e4 : cO P 4 = (P 3 + cO P 3) / 67108864 := rfl
  have e5 : cO P 5 = (P 4 + cO P 4) / 67108864 := rfl
  show (P 0 % 67108864 + 5 * cO P 5) + (P 1 + cO P 1) % 67108864 * 67108864 + (P 2 + cO P 2) % 67108864 * 4503599627370496 + (P 3 + cO P 3) % 67108864 * 302231454903657293676544 + (P 4 + cO P 4) % 67108864 * 20282409603651670423947251286016 + cO P 5 * 1361129467683753853853498429727072845819 = P 0 + P 1 * 67108864 + P 2 * 4503599627370496 + P 3 * 302231454903657293676544 + P 4 * 20282409603651670423947251286016
  generalize cO P 5 = o5 at *
  generalize cO P 4 = o4 at *
  generalize cO P 3 = o3 at *
  generalize cO P 2 = o2 at *
  generalize cO P 1 = o1 at *
  omega
/-- the total's parts between blocks -/
def okB (T : Nat → Nat) : Prop := T 0 < 67108869 ∧ T 1 < 67108864 ∧ T 2 < 67108864 ∧ T 3 < 67108864 ∧ T 4 < 67108864
theorem car2_ok (P : Nat → Nat) (hb : ∀ i, i < 5 → P i < 2 ^ 62) : okB (carN (carN P)) := by
  have h5 := cO_lt P hb 5 (by decide)
  have q0 : carN P 0 < 2 ^ 40 := by show P 0 % 67108864 + 5 * cO P 5 < _; omega
  have q1 : carN P 1 < 67108864 := Nat.mod_lt _ (by decide)
  have q2 : carN P 2 < 67108864 := Nat.mod_lt _ (by decide)
  have q3 : carN P 3 < 67108864 := Nat.mod_lt _ (by decide)
  have q4 : carN P 4 < 67108864 := Nat.mod_lt _ (by decide)
  refine ⟨?_, Nat.mod_lt _ (by decide), Nat.mod_lt _ (by decide), Nat.mod_lt _ (by decide), Nat.mod_lt _ (by decide)⟩
  have e1 : cO (carN P) 1 = carN P 0 / 67108864 := rfl
  have e2 : cO (carN P) 2 = (carN P 1 + cO (carN P) 1) / 67108864 := rfl
  have e3 : cO (carN P) 3 = (carN P 2 + cO (carN P) 2) / 67108864 := rfl
  have e4 : cO (carN P) 4 = (carN P 3 + cO (carN P) 3) / 67108864 := rfl
  have e5 : cO (carN P) 5 = (carN P 4 + cO (carN P) 4) / 67108864 := rfl
  show carN P 0 % 67108864 + 5 * cO (carN P) 5 < _
  omega
theorem carN_lt (P : Nat → Nat) (hb : ∀ i, i < 5 → P i < 2 ^ 62) : ∀ i, i < 5 → carN P i < 2 ^ 62 := by
  have h5 := cO_lt P hb 5 (by decide)
  intro i hi
  unfold carN
  split <;> omega
