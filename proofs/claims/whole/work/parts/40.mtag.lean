/-! The reference's end of the sum, and its 16 bytes. -/
theorem pz_at (p s : Nat → Int32) : ∀ n k, pzF p s n k = if k < n then (if k < 17 then s k else 0) else p k
  | 0, k => by rw [if_neg (show ¬ k < 0 by omega)]; rfl
  | n + 1, k => by
    show upd (pzF p s n) n (if n < 17 then s n else 0) k = _
    by_cases h : k = n
    · subst h; rw [upd_at, if_pos (Nat.lt_succ_self k)]
    · rw [upd_ne h, pz_at p s n k]
      by_cases h2 : k < n
      · rw [if_pos h2, if_pos (show k < n + 1 by omega)]
      · rw [if_neg h2, if_neg (show ¬ k < n + 1 by omega)]
theorem fS_dg (x : SX) (v : Nat) (hx : dg x.1 v) (hv : v < 2 ^ 130) : dg (fS x) (rd v) := by
  have hr : rp (pzF x.2.1 x.1 35) (fun k => if k < 17 then v / 256 ^ k % 256 else 0) 35 := by
    intro k hk
    rw [pz_at, if_pos hk]
    show _ = nI (if k < 17 then v / 256 ^ k % 256 else 0)
    by_cases e : k < 17
    · rw [if_pos e, if_pos e]; exact hx k e
    · rw [if_neg e, if_neg e]; rfl
  have hval : vN (fun k => if k < 17 then v / 256 ^ k % 256 else 0) 35 = v := by
    rw [vN_zero 17 35 (by decide) (fun j h1 h2 => if_neg (by omega)), vN_congr (g := fun k => v / 256 ^ k % 256) 17 (fun k hk => if_pos hk), vN_digits, Nat.mod_eq_of_lt (by omega)]
  intro k hk
  show cpS (fPA x).1 x.1 17 k = _
  rw [cpS_at, if_pos hk]
  have := stl_eq (pzF x.2.1 x.1 35, x.2.2) _ hr (fun j _ => by show (if j < 17 then v / 256 ^ j % 256 else 0) ≤ _; split <;> omega) (by rw [hval]; omega) k (by omega)
  rw [hval] at this
  exact this
theorem moN_iff (s : Nat → Int32) : ∀ n, ¬ moN s n = 0 ↔ (s 16 = 3 ∧ 251 ≤ s 0) ∧ ∀ k, k < n → s (1 + k) = 255
  | 0 => by
    show ¬ (if s 16 = 3 ∧ 251 ≤ s 0 then (1 : Int32) else 0) = 0 ↔ _
    by_cases h : s 16 = 3 ∧ 251 ≤ s 0
    · rw [if_pos h]; exact ⟨fun _ => ⟨h, fun k hk => by omega⟩, fun _ => by decide⟩
    · rw [if_neg h]; exact ⟨fun c => absurd rfl c, fun c => absurd c.1 h⟩
  | n + 1 => by
    show ¬ (if ¬ moN s n = 0 ∧ s (1 + n) = 255 then (1 : Int32) else 0) = 0 ↔ _
    have ih := moN_iff s n
    by_cases h : ¬ moN s n = 0 ∧ s (1 + n) = 255
    · rw [if_pos h]
      refine ⟨fun _ => ⟨(ih.mp h.1).1, fun k hk => ?_⟩, fun _ => by decide⟩
      by_cases e : k = n
      · rw [e]; exact h.2
      · exact (ih.mp h.1).2 k (by omega)
    · rw [if_neg h]
      refine ⟨fun c => absurd rfl c, fun c => absurd ⟨ih.mpr ⟨c.1, fun k hk => c.2 k (by omega)⟩, c.2 n (by omega)⟩ h⟩
theorem d255 : ∀ k : Nat, k < 15 → (2 ^ 122 - 1) / 256 ^ k % 256 = 255 := by decide
theorem dg_lt (s : Nat → Int32) (v : Nat) (h : dg s v) (k : Nat) (hk : k < 17) (c : Nat) (hc : c < 256) (e : s k = nI c) : v / 256 ^ k % 256 = c := by
  rw [h k hk] at e
  exact (nI_eq (by omega) (by omega)).mp e
theorem sFin_dg (s : Nat → Int32) (v : Nat) (h : dg s v) (hv : v < 2 ^ 130) : dg (sFin s) (v % PRM) := by
  unfold sFin
  by_cases hm : moN s 15 = 0
  · rw [if_pos hm]
    have hlt : v < PRM := by
      rcases Nat.lt_or_ge v PRM with z | z
      · exact z
      · exfalso
        rw [PRM_n] at z
        have e1 : v / 256 = 2 ^ 122 - 1 := by omega
        have k1 : s 16 = 3 ∧ 251 ≤ s 0 := by
          refine ⟨?_, ?_⟩
          · rw [h 16 (by decide), show v / 256 ^ 16 % 256 = 3 by omega]; rfl
          · rw [h 0 (by decide)]
            show nI 251 ≤ _
            exact nI_le (by show 251 ≤ v / 1 % 256; omega) (by omega)
        have k2 : ∀ k, k < 15 → s (1 + k) = 255 := by
          intro k hk
          rw [h (1 + k) (by omega), Nat.pow_add, ← Nat.div_div_eq_div_mul]
          show nI (v / 256 / 256 ^ k % 256) = _
          rw [e1, d255 k hk]
          rfl
        exact ((moN_iff s 15).mpr ⟨k1, k2⟩) hm
    rw [Nat.mod_eq_of_lt hlt]
    exact h
  · rw [if_neg hm]
    obtain ⟨⟨h16, h0⟩, hk⟩ := (moN_iff s 15).mp hm
    have d16 := dg_lt s v h 16 (by decide) 3 (by decide) h16
    have dk : ∀ k, k < 15 → v / 256 ^ (1 + k) % 256 = 255 := fun k hk2 => dg_lt s v h (1 + k) (by omega) 255 (by decide) (hk k hk2)
    have d0 : 251 ≤ v % 256 := by
      rw [h 0 (by decide)] at h0
      have : 251 ≤ v / 1 % 256 := (nI_leI (by decide) (by omega)).mp h0
      omega
    have hs := vN_digits v 17
    rw [Nat.mod_eq_of_lt (show v < 256 ^ 17 by omega)] at hs
    have hx : 0 + v / 256 ^ 0 % 256 * 256 ^ 0 + v / 256 ^ 1 % 256 * 256 ^ 1 + v / 256 ^ 2 % 256 * 256 ^ 2 + v / 256 ^ 3 % 256 * 256 ^ 3 + v / 256 ^ 4 % 256 * 256 ^ 4 + v / 256 ^ 5 % 256 * 256 ^ 5 + v / 256 ^ 6 % 256 * 256 ^ 6 + v / 256 ^ 7 % 256 * 256 ^ 7 + v / 256 ^ 8 % 256 * 256 ^ 8 + v / 256 ^ 9 % 256 * 256 ^ 9 + v / 256 ^ 10 % 256 * 256 ^ 10 + v / 256 ^ 11 % 256 * 256 ^ 11 + v / 256 ^ 12 % 256 * 256 ^ 12 + v / 256 ^ 13 % 256 * 256 ^ 13 + v / 256 ^ 14 % 256 * 256 ^ 14 + v / 256 ^ 15 % 256 * 256 ^ 15 + v / 256 ^ 16 % 256 * 256 ^ 16 = v := hs
    have q1 : v / 256 ^ 1 % 256 = 255 := dk 0 (by decide)
    have q2 : v / 256 ^ 2 % 256 = 255 := dk 1 (by decide)
    have q3 : v / 256 ^ 3 % 256 = 255 := dk 2 (by decide)
    have q4 : v / 256 ^ 4 % 256 = 255 := dk 3 (by decide)
    have q5 : v / 256 ^ 5 % 256 = 255 := dk 4 (by decide)
    have q6 : v / 256 ^ 6 % 256 = 255 := dk 5 (by decide)
    have q7 : v / 256 ^ 7 % 256 = 255 := dk 6 (by decide)
    have q8 : v / 256 ^ 8 % 256 = 255 := dk 7 (by decide)
    have q9 : v / 256 ^ 9 % 256 = 255 := dk 8 (by decide)
    have q10 : v / 256 ^ 10 % 256 = 255 := dk 9 (by decide)
    have q11 : v / 256 ^ 11 % 256 = 255 := dk 10 (by decide)
    have q12 : v / 256 ^ 12 % 256 = 255 := dk 11 (by decide)
    have q13 : v / 256 ^ 13 % 256 = 255 := dk 12 (by decide)
    have q14 : v / 256 ^ 14 % 256 = 255 := dk 13 (by decide)
    have q15 : v / 256 ^ 15 % 256 = 255 := dk 14 (by decide)
    have q0 : v / 256 ^ 0 % 256 = v % 256 := by show v / 1 % 256 = _; omega
    rw [q0, q1, q2, q3, q4, q5, q6, q7, q8, q9, q10, q11, q12, q13, q14, q15, d16] at hx
    have hge : v = v % 256 - 251 + PRM := by
      rw [PRM_n]
      generalize hr : v % 256 = r at hx d0 ⊢
      rw [← hx]
      omega
    have hmod : v % PRM = v % 256 - 251 := by
      have hl : v % 256 - 251 < PRM := by rw [PRM_n]; omega
      calc v % PRM = (v % 256 - 251 + PRM) % PRM := congrArg (· % PRM) hge
        _ = (v % 256 - 251) % PRM := Nat.add_mod_right _ _
        _ = v % 256 - 251 := Nat.mod_eq_of_lt hl
    intro k hk2
    rw [hmod, zrF_at]
    by_cases e : k = 0
    · subst e
      rw [if_neg (by omega), upd_at, h 0 (by decide)]
      show nI (v / 1 % 256) - nI 251 = nI ((v % 256 - 251) / 1 % 256)
      rw [pk_sub (show 251 ≤ v / 1 % 256 by omega)]
      exact congrArg nI (by omega)
    · rw [if_pos (by omega)]
      have hp : 256 ≤ 256 ^ k := by
        have := Nat.pow_le_pow_right (n := 256) (by decide) (show 1 ≤ k by omega)
        rw [Nat.pow_one] at this
        exact this
      rw [Nat.div_eq_of_lt (by omega)]
      rfl
def cM (S B : Nat → Nat) : Nat → Nat
  | 0 => 0
  | k + 1 => (cM S B k + (S k + B k)) / 256
theorem cM_le (S B : Nat → Nat) (hS : ∀ k, S k < 256) (hB : ∀ k, B k < 256) : ∀ n, cM S B n ≤ 1
  | 0 => by show 0 ≤ 1; omega
  | n + 1 => by
    have h := cM_le S B hS hB n
    have h1 := hS n
    have h2 := hB n
    show (cM S B n + (S n + B n)) / 256 ≤ 1
    omega
theorem cM_inv (v : Nat) (B : Nat → Nat) : ∀ n, ∃ lo, lo < 256 ^ n ∧ v % 256 ^ n + vN B n = lo + cM (fun k => v / 256 ^ k % 256) B n * 256 ^ n
  | 0 => ⟨0, by decide, by show v % 1 + 0 = 0 + 0 * 1; omega⟩
  | n + 1 => by
    obtain ⟨lo, h1, h2⟩ := cM_inv v B n
    refine ⟨lo + (cM (fun k => v / 256 ^ k % 256) B n + (v / 256 ^ n % 256 + B n)) % 256 * 256 ^ n, ?_, ?_⟩
    · have h3 : (cM (fun k => v / 256 ^ k % 256) B n + (v / 256 ^ n % 256 + B n)) % 256 * 256 ^ n ≤ 255 * 256 ^ n := Nat.mul_le_mul_right _ (by omega)
      rw [Nat.pow_succ]
      omega
    · show v % 256 ^ (n + 1) + (vN B n + B n * 256 ^ n) = _ + (cM (fun k => v / 256 ^ k % 256) B n + (v / 256 ^ n % 256 + B n)) / 256 * 256 ^ (n + 1)
      have h4 := dm256 (cM (fun k => v / 256 ^ k % 256) B n + (v / 256 ^ n % 256 + B n)) (256 ^ n)
      rw [Nat.pow_succ, Nat.mod_mul, Nat.mul_comm (256 ^ n) (v / 256 ^ n % 256)]
      rw [Nat.add_mul, Nat.add_mul] at h4
      omega
theorem cM_val (v : Nat) (B : Nat → Nat) (hB : ∀ k, B k < 256) (k : Nat) (hk : k < 16) : (cM (fun k => v / 256 ^ k % 256) B k + (v / 256 ^ k % 256 + B k)) % 256 = (v + vN B 16) / 256 ^ k % 256 := by
  obtain ⟨lo, h1, h2⟩ := cM_inv v B k
  obtain ⟨r, hr⟩ := vN_div (f := B) (k + 1) (fun j _ => hB j) 16 (by omega)
  have hN : v + vN B 16 = lo + (cM (fun k => v / 256 ^ k % 256) B k + v / 256 ^ k + B k + r * 256) * 256 ^ k := by
    have h3 := Nat.div_add_mod v (256 ^ k)
    have h4 : vN B (k + 1) = vN B k + B k * 256 ^ k := rfl
    rw [hr, h4, Nat.pow_succ, Nat.add_mul, Nat.add_mul, Nat.add_mul, Nat.mul_assoc r 256, Nat.mul_comm 256 (256 ^ k)]
    rw [Nat.mul_comm] at h3
    omega
  rw [hN, Nat.add_mul_div_right _ _ (Nat.pow_pos (by decide)), Nat.div_eq_of_lt h1]
  omega
theorem tgS_num (s b tg : Nat → Int32) (v : Nat) (h : dg s v) : ∀ n, n ≤ 16 → (tgS s b tg n).1 = nI (cM (fun k => v / 256 ^ k % 256) (fun k => bN (b (16 + k))) n) ∧ ∀ j, (tgS s b tg n).2 j = if j < n then sB (nI (cM (fun k => v / 256 ^ k % 256) (fun k => bN (b (16 + k))) j + (v / 256 ^ j % 256 + bN (b (16 + j))))) else tg j
  | 0, _ => ⟨rfl, fun j => by rw [if_neg (by omega)]; rfl⟩
  | n + 1, hn => by
    obtain ⟨h1, h2⟩ := tgS_num s b tg v h n (by omega)
    have hc := cM_le (fun k => v / 256 ^ k % 256) (fun k => bN (b (16 + k))) (fun k => Nat.mod_lt _ (by decide)) (fun k => bN_lt _) n
    have hb := bN_lt (b (16 + n))
    have ev : (tgS s b tg n).1 + (s n + (b (16 + n) &&& 255)) = nI (cM (fun k => v / 256 ^ k % 256) (fun k => bN (b (16 + k))) n + (v / 256 ^ n % 256 + bN (b (16 + n)))) := by
      rw [h1, h n (by omega), bN_eq, nI_add, nI_add]
    refine ⟨?_, fun j => ?_⟩
    · show shr ((tgS s b tg n).1 + (s n + (b (16 + n) &&& 255))) 8 = _
      rw [ev]
      exact pk_shrN (by omega) _ 8 (by decide)
    · show upd (tgS s b tg n).2 n (sB ((tgS s b tg n).1 + (s n + (b (16 + n) &&& 255)))) j = _
      by_cases e : j = n
      · subst e; rw [upd_at, ev, if_pos (by omega)]
      · rw [upd_ne e, h2 j]
        by_cases e2 : j < n
        · rw [if_pos e2, if_pos (by omega)]
        · rw [if_neg e2, if_neg (by omega)]
/-- the reference's 16 bytes -/
theorem tagM (y : S5) (b tx : Nat → Int32) (n v : Nat) (hx : dg (smX y b tx n).1 v) (hv : v < 2 ^ 130) : ∀ j, (smF y b tx n).2.2.2.2 j = if j < 16 then sB (nI ((v % PRM + vN (fun k => bN (b (16 + k))) 16) / 256 ^ j % 256)) else y.2.2.2.2 j := by
  intro j
  have h1 := sFin_dg _ _ (fS_dg _ v hx hv) (rd_lt v (by omega))
  rw [rd_mod] at h1
  rw [smF_eq]
  show (tgS (sFin (fS (smX y b tx n))) b y.2.2.2.2 16).2 j = _
  rw [(tgS_num _ b y.2.2.2.2 _ h1 16 (by decide)).2 j]
  by_cases e : j < 16
  · rw [if_pos e, if_pos e]
    apply sB_bN
    have hc := cM_le (fun k => v % PRM / 256 ^ k % 256) (fun k => bN (b (16 + k))) (fun k => Nat.mod_lt _ (by decide)) (fun k => bN_lt _) j
    have hb := bN_lt (b (16 + j))
    rw [bN_nI (by omega), bN_nI (by omega), cM_val (v % PRM) (fun k => bN (b (16 + k))) (fun k => bN_lt _) j e]
    omega
  · rw [if_neg e, if_neg e]
