/-! The stream's block: the class's and the reference's. -/
theorem c16 {P : Nat → Prop} (h : ∀ j, j < 16 → P j) : ∀ j, j < 16 → P j := h
def ag (f g : Nat → Int32) : Prop := ∀ j, j < 16 → f j = g j
theorem ag.up {f g : Nat → Int32} {k : Nat} {x y : Int32} (h : ag f g) (e : x = y) : ag (upd f k x) (upd g k y) := by
  intro j hj
  unfold upd
  split
  · exact e
  · exact h j hj
theorem ag.qa {f g : Nat → Int32} {a b : Nat} (h : ag f g) (ha : a < 16) (hb : b < 16) : ag (qa f a b) (qa g a b) := h.up (by rw [h a ha, h b hb])
theorem ag.qx {f g : Nat → Int32} {a d : Nat} {r : Int32} (h : ag f g) (hd : d < 16) (ha : a < 16) : ag (qx f d a r) (qx g d a r) := h.up (by rw [h a ha, h d hd])
theorem ag.qr {f g : Nat → Int32} {a b c d : Nat} (h : ag f g) (ha : a < 16) (hb : b < 16) (hc : c < 16) (hd : d < 16) : ag (qr f a b c d) (qr g a b c d) :=
  (((((((h.qa ha hb).qx hd ha).qa hc hd).qx hb hc).qa ha hb).qx hd ha).qa hc hd).qx hb hc
theorem ag.qcol {f g : Nat → Int32} (h : ag f g) : ag (qcol f) (qcol g) :=
  (((h.qr (by decide) (by decide) (by decide) (by decide)).qr (by decide) (by decide) (by decide) (by decide)).qr (by decide) (by decide) (by decide) (by decide)).qr (by decide) (by decide) (by decide) (by decide)
theorem ag.qdia {f g : Nat → Int32} (h : ag f g) : ag (qdia f) (qdia g) :=
  (((h.qr (by decide) (by decide) (by decide) (by decide)).qr (by decide) (by decide) (by decide) (by decide)).qr (by decide) (by decide) (by decide) (by decide)).qr (by decide) (by decide) (by decide) (by decide)
theorem ag.rounds {f g : Nat → Int32} (h : ag f g) : ∀ n, ag (qrounds f n) (qrounds g n)
  | 0 => h
  | n + 1 => (ag.rounds h n).qcol.qdia
theorem lay_ag (f g fk fn : Nat → Int32) (c : Int32) : ag (layF f fk fn c) (layF g fk fn c) := by
  intro j hj
  have h : j = 0 ∨ j = 1 ∨ j = 2 ∨ j = 3 ∨ j = 4 ∨ j = 5 ∨ j = 6 ∨ j = 7 ∨ j = 8 ∨ j = 9 ∨ j = 10 ∨ j = 11 ∨ j = 12 ∨ j = 13 ∨ j = 14 ∨ j = 15 := by omega
  rcases h with rfl | rfl | rfl | rfl | rfl | rfl | rfl | rfl | rfl | rfl | rfl | rfl | rfl | rfl | rfl | rfl <;> rfl
theorem mcol_eq (f : Nat → Int32) : mcol f 4 = qcol f := rfl
theorem mdia_eq (f : Nat → Int32) : mdia f 4 = qdia f := rfl
theorem mrd_eq (f : Nat → Int32) : ∀ n, mrd f n = qrounds f n
  | 0 => rfl
  | n + 1 => by
    show mdia (mcol (mrd f n) 4) 4 = qdia (qcol (qrounds f n))
    rw [mrd_eq f n, mcol_eq, mdia_eq]
theorem cpN_at (b v : Nat → Int32) : ∀ n j, cpN b v n j = if j < n then b j else v j
  | 0, j => by rw [if_neg (by omega)]; rfl
  | n + 1, j => by
    show upd (cpN b v n) n (b n) j = _
    by_cases h : j = n
    · subst h
      rw [upd_at, if_pos (by omega)]
    · rw [upd_ne h, cpN_at b v n j]
      by_cases h2 : j < n
      · rw [if_pos h2, if_pos (by omega)]
      · rw [if_neg h2, if_neg (by omega)]
theorem cp0_at (t o : Nat → Int32) : ∀ n j, cp0 t o n j = if j < n then o j else t j
  | 0, j => by rw [if_neg (by omega)]; rfl
  | n + 1, j => by
    show upd (cp0 t o n) n (o n) j = _
    by_cases h : j = n
    · subst h
      rw [upd_at, if_pos (by omega)]
    · rw [upd_ne h, cp0_at t o n j]
      by_cases h2 : j < n
      · rw [if_pos h2, if_pos (by omega)]
      · rw [if_neg h2, if_neg (by omega)]
theorem cpT_at (t o : Nat → Int32) (k : Nat) : ∀ n j, cpT t o k n j = if k ≤ j ∧ j < k + n then o (j - k) else t j
  | 0, j => by rw [if_neg (by omega)]; rfl
  | n + 1, j => by
    show upd (cpT t o k n) (k + n) (o n) j = _
    by_cases h : j = k + n
    · subst h
      rw [upd_at, if_pos (by omega), Nat.add_sub_cancel_left]
    · rw [upd_ne h, cpT_at t o k n j]
      by_cases h2 : k ≤ j ∧ j < k + n
      · rw [if_pos h2, if_pos (by omega)]
      · rw [if_neg h2, if_neg (by omega)]
theorem cpT_cpy (t o : Nat → Int32) (k n : Nat) : cpT t o k n = va_cpy o t 0 k n := by
  funext j
  rw [cpT_at]
  unfold va_cpy
  rw [Nat.zero_add]
theorem cp0_cpy (t o : Nat → Int32) (n : Nat) : cp0 t o n = va_cpy o t 0 0 n := by
  funext j
  rw [cp0_at]
  unfold va_cpy
  rw [Nat.zero_add, Nat.zero_add, Nat.sub_zero]
  by_cases h : j < n
  · rw [if_pos h, if_pos ⟨Nat.zero_le _, h⟩]
  · rw [if_neg h, if_neg (fun q => h q.2)]
theorem st4_wl (f : Nat → Int32) (i : Nat) (x : Int32) : st4 f i x 4 = wl f (4 * i) x := by
  have e1 := sB_shr x 24 (by omega)
  have e2 := sB_shr x 16 (by omega)
  have e3 := sB_shr x 8 (by omega)
  have e4 : sB (shr x (nI 0)) = sB x := by
    rw [← sB_shr x 0 (by omega)]
    apply sB_eq
    rw [ushr_bv x 0 (by omega)]
    rfl
  show upd (upd (upd (upd f (4 * i + 0) (sB (shr x (nI (8 * 0))))) (4 * i + 1) (sB (shr x (nI (8 * 1))))) (4 * i + 2) (sB (shr x (nI (8 * 2))))) (4 * i + 3) (sB (shr x (nI (8 * 3)))) = _
  rw [show 8 * 0 = 0 from rfl, show 8 * 1 = 8 from rfl, show 8 * 2 = 16 from rfl, show 8 * 3 = 24 from rfl, e4, ← e3, ← e2, ← e1]
  rfl
theorem outF_stm (row v b : Nat → Int32) : ∀ n, outF row v b n = stm row v b n
  | 0 => rfl
  | n + 1 => by
    show wl (outF row v b n) (4 * n) (v n + b n) = st4 (stm row v b n) n (v n + b n) 4
    rw [st4_wl, outF_stm row v b n]
theorem st4_at (f : Nat → Int32) (i : Nat) (x : Int32) : ∀ n j, st4 f i x n j = if 4 * i ≤ j ∧ j < 4 * i + n then sB (shr x (nI (8 * (j - 4 * i)))) else f j
  | 0, j => by rw [if_neg (by omega)]; rfl
  | n + 1, j => by
    show upd (st4 f i x n) (4 * i + n) (sB (shr x (nI (8 * n)))) j = _
    by_cases h : j = 4 * i + n
    · subst h
      rw [upd_at, if_pos (by omega), Nat.add_sub_cancel_left]
    · rw [upd_ne h, st4_at f i x n j]
      by_cases h2 : 4 * i ≤ j ∧ j < 4 * i + n
      · rw [if_pos h2, if_pos (by omega)]
      · rw [if_neg h2, if_neg (by omega)]
theorem stm_at (s v b : Nat → Int32) : ∀ n j, stm s v b n j = if j < 4 * n then sB (shr (v (j / 4) + b (j / 4)) (nI (8 * (j % 4)))) else s j
  | 0, j => by rw [if_neg (by omega)]; rfl
  | n + 1, j => by
    show st4 (stm s v b n) n (v n + b n) 4 j = _
    rw [st4_at, stm_at s v b n j]
    by_cases h : 4 * n ≤ j ∧ j < 4 * n + 4
    · rw [if_pos h, if_pos (by omega), show j / 4 = n by omega, show j - 4 * n = j % 4 by omega]
    · rw [if_neg h]
      by_cases h2 : j < 4 * n
      · rw [if_pos h2, if_pos (by omega)]
      · rw [if_neg h2, if_neg (by omega)]
/-- the 64 bytes of the block -/
def STR (fk fn : Nat → Int32) (c : Int32) (j : Nat) : Int32 := msF (fun _ => 0) (fun _ => 0) (fun _ => 0) fk fn c j
theorem msF_at (s b v fk fn : Nat → Int32) (c : Int32) (j : Nat) : msF s b v fk fn c j = if j < 64 then STR fk fn c j else s j := by
  unfold STR msF
  rw [stm_at, stm_at]
  have hl : ag (layF b fk fn c) (layF (fun _ => 0) fk fn c) := lay_ag _ _ _ _ _
  have hv : ag (mvF b v fk fn c) (mvF (fun _ => 0) (fun _ => 0) fk fn c) := by
    unfold mvF
    rw [mrd_eq, mrd_eq]
    apply ag.rounds
    intro j hj
    rw [cpN_at, cpN_at, if_pos hj, if_pos hj]
    exact hl j hj
  by_cases h : j < 64
  · rw [if_pos (show j < 4 * 16 from h), if_pos h, if_pos (show j < 4 * 16 from h), hl (j / 4) (by omega), hv (j / 4) (by omega)]
  · rw [if_neg (show ¬ j < 4 * 16 from h), if_neg h]
theorem fillF_at (row f m fk fn : Nat → Int32) (c : Int32) (j : Nat) : fillF row f m fk fn c j = if j < 64 then STR fk fn c j else row j := by
  unfold fillF STR msF
  rw [outF_stm, stm_at, stm_at]
  have hl : ag (layF f fk fn c) (layF (fun _ => 0) fk fn c) := lay_ag _ _ _ _ _
  have hv : ag (mixF f m fk fn c) (mvF (fun _ => 0) (fun _ => 0) fk fn c) := by
    unfold mvF mixF
    rw [mrd_eq]
    apply ag.rounds
    intro j hj
    rw [cpN_at, if_pos hj]
    unfold va_cpy
    rw [if_pos (by omega), Nat.zero_add, Nat.sub_zero]
    exact hl j hj
  by_cases h : j < 64
  · rw [if_pos (show j < 4 * 16 from h), if_pos h, if_pos (show j < 4 * 16 from h), hl (j / 4) (by omega), hv (j / 4) (by omega)]
  · rw [if_neg (show ¬ j < 4 * 16 from h), if_neg h]
/-- what stream leaves in OUT -/
theorem stream_eq (o f m s b v fk fn : Nat → Int32) (c : Int32) : fillF o f m fk fn c = cp0 o (msF s b v fk fn c) 64 := by
  funext j
  rw [fillF_at, cp0_at, msF_at]
  by_cases h : j < 64
  · rw [if_pos h, if_pos h, if_pos h]
  · rw [if_neg h, if_neg h]
