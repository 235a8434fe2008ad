/-! The reference's Poly1305. -/
def mc1 (q : Nat → Int32) (k : Nat) : Nat → Int32 := upd (upd q (k + 1) (q (k + 1) + shr (q k) 8)) k ((upd q (k + 1) (q (k + 1) + shr (q k) 8)) k &&& 255)
def mcar (p : Nat → Int32) : Nat → Nat → Int32
  | 0 => p
  | k + 1 => mc1 (mcar p k) k
def abv (p a : Nat → Int32) : Nat → Nat → Int32
  | 0 => a
  | k + 1 => upd (abv p a k) k (shr (p (16 + k)) 2 ||| (shl (p (17 + k)) 6 &&& 255))
def zrF (p : Nat → Int32) (s : Nat) : Nat → Nat → Int32
  | 0 => p
  | i + 1 => upd (zrF p s i) (s + i) 0
def zr0 (p : Nat → Int32) : Nat → Nat → Int32
  | 0 => p
  | i + 1 => upd (zr0 p i) i 0
def fvF (p a : Nat → Int32) : Nat → Nat → Int32
  | 0 => p
  | k + 1 => upd (fvF p a k) k (fvF p a k k + 5 * a k)
/-- product, above -/
abbrev PA : Type := (Nat → Int32) × (Nat → Int32)
def z3F (p : Nat → Int32) : Nat → Int32 := upd (zrF (mcar p 34) 17 18) 16 (zrF (mcar p 34) 17 18 16 &&& 3)
def se0 (x : PA) : PA := (fvF (z3F x.1) (abv (mcar x.1 34) x.2 18) 18, abv (mcar x.1 34) x.2 18)
noncomputable def seF : PA → PA := Classical.choose (⟨se0, rfl⟩ : ∃ F : PA → PA, F = se0)
theorem seF_eq : seF = se0 := Classical.choose_spec (⟨se0, rfl⟩ : ∃ F : PA → PA, F = se0)
noncomputable def seN (x : PA) : Nat → PA
  | 0 => x
  | i + 1 => seF (seN x i)
def sq0 (x : PA) : PA := (mcar x.1 34, x.2)
noncomputable def stl (x : PA) : PA := sq0 (seN x 3)
def rmask (k : Nat) : Int32 := if k % 4 = 3 then 15 else if 0 < k ∧ k % 4 = 0 then 252 else 255
def rF (r b : Nat → Int32) : Nat → Nat → Int32
  | 0 => r
  | k + 1 => upd (rF r b k) k (b k &&& rmask k)
def adT (s tx : Nat → Int32) (a : Nat) : Nat → Nat → Int32
  | 0 => s
  | k + 1 => upd (adT s tx a k) k (adT s tx a k k + (tx (a + k) &&& 255))
def pm2 (p s r : Nat → Int32) (i : Nat) : Nat → Nat → Int32
  | 0 => p
  | j + 1 => upd (pm2 p s r i j) (i + j) (pm2 p s r i j (i + j) + s i * r j)
def pm1 (p s r : Nat → Int32) : Nat → Nat → Int32
  | 0 => p
  | i + 1 => pm2 (pm1 p s r i) s r i 16
def cpS (p s : Nat → Int32) : Nat → Nat → Int32
  | 0 => s
  | k + 1 => upd (cpS p s k) k (p k)
/-- sum, product, above -/
abbrev SX : Type := (Nat → Int32) × (Nat → Int32) × (Nat → Int32)
def sAd (s tx : Nat → Int32) (a m : Nat) : Nat → Int32 := upd (adT s tx a m) m (adT s tx a m m + 1)
noncomputable def sPA (x : SX) (r tx : Nat → Int32) (a m : Nat) : PA := stl (pm1 (zr0 x.2.1 35) (sAd x.1 tx a m) r 17, x.2.2)
noncomputable def sb0 (x : SX) (r tx : Nat → Int32) (a m : Nat) : SX := (cpS (sPA x r tx a m).1 (sAd x.1 tx a m) 17, (sPA x r tx a m).1, (sPA x r tx a m).2)
noncomputable def sbF : SX → (Nat → Int32) → (Nat → Int32) → Nat → Nat → SX := Classical.choose (⟨sb0, rfl⟩ : ∃ F : SX → (Nat → Int32) → (Nat → Int32) → Nat → Nat → SX, F = sb0)
theorem sbF_eq : sbF = sb0 := Classical.choose_spec (⟨sb0, rfl⟩ : ∃ F : SX → (Nat → Int32) → (Nat → Int32) → Nat → Nat → SX, F = sb0)
noncomputable def sbN (x : SX) (r tx : Nat → Int32) (n : Nat) : Nat → SX
  | 0 => x
  | i + 1 => sbF (sbN x r tx n i) r tx (16 * i) (min 16 (n - 16 * i))
def pzF (p s : Nat → Int32) : Nat → Nat → Int32
  | 0 => p
  | k + 1 => upd (pzF p s k) k (if k < 17 then s k else 0)
noncomputable def fPA (x : SX) : PA := stl (pzF x.2.1 x.1 35, x.2.2)
noncomputable def fS (x : SX) : Nat → Int32 := cpS (fPA x).1 x.1 17
def moN (s : Nat → Int32) : Nat → Int32
  | 0 => if s 16 = 3 ∧ 251 ≤ s 0 then 1 else 0
  | i + 1 => if ¬ moN s i = 0 ∧ s (1 + i) = 255 then 1 else 0
def sFin (s : Nat → Int32) : Nat → Int32 := if moN s 15 = 0 then s else zrF (upd s 0 (s 0 - 251)) 1 16
def tgS (s b tg : Nat → Int32) : Nat → Int32 × (Nat → Int32)
  | 0 => (0, tg)
  | k + 1 => (shr ((tgS s b tg k).1 + (s k + (b (16 + k) &&& 255))) 8, upd (tgS s b tg k).2 k (sB ((tgS s b tg k).1 + (s k + (b (16 + k) &&& 255)))))
/-- r, sum, product, above, tag -/
abbrev S5 : Type := (Nat → Int32) × (Nat → Int32) × (Nat → Int32) × (Nat → Int32) × (Nat → Int32)
noncomputable def smX (y : S5) (b tx : Nat → Int32) (n : Nat) : SX := sbN (zr0 y.2.1 17, y.2.2.1, y.2.2.2.1) (rF y.1 b 16) tx n ((n + 15) / 16)
noncomputable def sm0 (y : S5) (b tx : Nat → Int32) (n : Nat) : S5 := (rF y.1 b 16, sFin (fS (smX y b tx n)), (fPA (smX y b tx n)).1, (fPA (smX y b tx n)).2, (tgS (sFin (fS (smX y b tx n))) b y.2.2.2.2 16).2)
noncomputable def smF : S5 → (Nat → Int32) → (Nat → Int32) → Nat → S5 := Classical.choose (⟨sm0, rfl⟩ : ∃ F : S5 → (Nat → Int32) → (Nat → Int32) → Nat → S5, F = sm0)
theorem smF_eq : smF = sm0 := Classical.choose_spec (⟨sm0, rfl⟩ : ∃ F : S5 → (Nat → Int32) → (Nat → Int32) → Nat → S5, F = sm0)

def rm_M_carry : Room := { frames := 0, cells := 0, slots := 0, locals := 0 }
set_option maxHeartbeats 1000000 in
set_option maxRecDepth 100000 in
theorem c_M_carry (l : Launch) (E : Ev) (h mt mo mk mn mr mh mw mi mv mb ms mu mp mc mx mg ma : Nat) (tn on rc tx : Nat) (p : Nat → Int32) : MC E l yM_carry (cT yM_carry cM_carry 2 none) rm_M_carry [.ref h] [ob h 4 [.ref mt, .int (nI tn), .ref mo, .int (nI on), .ref mk, .ref mn, .ref mr, .int (nI rc), .ref mh, .ref mw, .ref mi, .ref mv, .ref mb, .ref ms, .ref mu, .ref mp, .ref mc, .ref mx, .ref mg, .ref ma, .int (nI tx)], aI E mp 35 p] Unit (fun _ => True) (fun _ => none) (fun _ => [ob h 4 [.ref mt, .int (nI tn), .ref mo, .int (nI on), .ref mk, .ref mn, .ref mr, .int (nI rc), .ref mh, .ref mw, .ref mi, .ref mv, .ref mb, .ref ms, .ref mu, .ref mp, .ref mc, .ref mx, .ref mg, .ref ma, .int (nI tx)], aI E mp 35 (mcar p 34)]) := by
  refine MC.of (cc := cM_carry) (nL := 2) (ret := none) (by decide) rfl cT_in (Nat.le_of_ble_eq_true rfl) (fun g hg hR => ?_)
  show J E 2 g [ob h 4 [.ref mt, .int (nI tn), .ref mo, .int (nI on), .ref mk, .ref mn, .ref mr, .int (nI rc), .ref mh, .ref mw, .ref mi, .ref mv, .ref mb, .ref ms, .ref mu, .ref mp, .ref mc, .ref mx, .ref mg, .ref ma, .int (nI tx)], aI E mp 35 p] [(0, .ref h)] 0 0 0 []
  refine j_iconst hg (v := 0) dM_carry_0 (by decide) ?_
  refine j_istore_n hg (lv' := [(1, .int 0), (0, .ref h)]) dM_carry_1 rfl (by decide) rfl ?_
  refine j_pick [1, 0] (lv' := [(0, .ref h), (1, .int 0)]) rfl ?_
  have loop : ∀ (zk i : Nat), i + zk = 34 → J E 2 g [ob h 4 [.ref mt, .int (nI tn), .ref mo, .int (nI on), .ref mk, .ref mn, .ref mr, .int (nI rc), .ref mh, .ref mw, .ref mi, .ref mv, .ref mb, .ref ms, .ref mu, .ref mp, .ref mc, .ref mx, .ref mg, .ref ma, .int (nI tx)], aI E mp 35 (mcar p i)] [(0, .ref h), (1, .int (nI i))] 0 0 2 [] := by
    intro zk
    induction zk with
    | zero =>
      intro i  hi
      obtain rfl : 34 = i := by omega
      refine j_iload_n hg 1 dM_carry_2 rfl rfl ?_
      refine j_bipush hg (v := 34) dM_carry_3 (by decide) ?_
      refine j_nge_t hg (tgt := 46) 34 34 rfl rfl (by omega) (by omega) (by omega) dM_carry_5 (by decide) ?_
      exact j_vret hg hR () trivial rfl [0, 1] rfl (by decide) (by decide) (by decide) dM_carry_46
    | succ zk ih =>
      intro i  hi
      refine j_iload_n hg 1 dM_carry_2 rfl rfl ?_
      refine j_bipush hg (v := 34) dM_carry_3 (by decide) ?_
      refine j_nge_f hg (tgt := 46) i 34 rfl rfl (by omega) (by omega) (by omega) dM_carry_5 (by decide) ?_
      refine j_aload_n hg 0 dM_carry_8 rfl rfl ?_
      refine j_get hg (C := RX4) (T := TX4) (N := 21) inX4 0 rfl rfl 15 (by decide) m343 rfl dM_carry_9 ?_
      refine j_iload_n hg 1 dM_carry_12 rfl rfl ?_
      refine j_iconst hg (v := 1) dM_carry_13 (by decide) ?_
      refine j_iadd hg (v := nI (i + 1)) dM_carry_14 (nI_add i 1) ?_
      refine j_dup2_11 hg dM_carry_15 rfl rfl ?_
      refine j_iald hg (v := (mcar p i) (i + 1)) 1 (i + 1) rfl rfl (by omega) (by omega) rfl dM_carry_16 ?_
      refine j_aload_n hg 0 dM_carry_17 rfl rfl ?_
      refine j_get hg (C := RX4) (T := TX4) (N := 21) inX4 0 rfl rfl 15 (by decide) m343 rfl dM_carry_18 ?_
      refine j_iload_n hg 1 dM_carry_21 rfl rfl ?_
      refine j_iald hg (v := (mcar p i) i) 1 i rfl rfl (by omega) (by omega) rfl dM_carry_22 ?_
      refine j_bipush hg (v := 8) dM_carry_23 (by decide) ?_
      refine j_ishr hg (v := shr ((mcar p i) i) 8) dM_carry_25 rfl ?_
      refine j_iadd hg (v := ((mcar p i) (i + 1)) + (shr ((mcar p i) i) 8)) dM_carry_26 rfl ?_
      refine j_iast hg (ws' := [ob h 4 [.ref mt, .int (nI tn), .ref mo, .int (nI on), .ref mk, .ref mn, .ref mr, .int (nI rc), .ref mh, .ref mw, .ref mi, .ref mv, .ref mb, .ref ms, .ref mu, .ref mp, .ref mc, .ref mx, .ref mg, .ref ma, .int (nI tx)], aI E mp 35 (upd (mcar p i) (i + 1) (((mcar p i) (i + 1)) + (shr ((mcar p i) i) 8)))]) 1 (i + 1) rfl rfl (by omega) (by omega) rfl dM_carry_27 ?_
      refine j_aload_n hg 0 dM_carry_28 rfl rfl ?_
      refine j_get hg (C := RX4) (T := TX4) (N := 21) inX4 0 rfl rfl 15 (by decide) m343 rfl dM_carry_29 ?_
      refine j_iload_n hg 1 dM_carry_32 rfl rfl ?_
      refine j_dup2_11 hg dM_carry_33 rfl rfl ?_
      refine j_iald hg (v := (upd (mcar p i) (i + 1) (((mcar p i) (i + 1)) + (shr ((mcar p i) i) 8))) i) 1 i rfl rfl (by omega) (by omega) rfl dM_carry_34 ?_
      refine j_sipush hg (v := 255) dM_carry_35 (by decide) ?_
      refine j_iand hg (v := ((upd (mcar p i) (i + 1) (((mcar p i) (i + 1)) + (shr ((mcar p i) i) 8))) i) &&& 255) dM_carry_38 rfl ?_
      refine j_iast hg (ws' := [ob h 4 [.ref mt, .int (nI tn), .ref mo, .int (nI on), .ref mk, .ref mn, .ref mr, .int (nI rc), .ref mh, .ref mw, .ref mi, .ref mv, .ref mb, .ref ms, .ref mu, .ref mp, .ref mc, .ref mx, .ref mg, .ref ma, .int (nI tx)], aI E mp 35 (mc1 (mcar p i) i)]) 1 i rfl rfl (by omega) (by omega) rfl dM_carry_39 ?_
      refine j_iinc hg (kq := 1) (v := nI (i + 1)) (lv' := [(1, .int (nI (i + 1))), (0, .ref h)]) dM_carry_40 rfl (nI_add i 1) (by decide) rfl ?_
      refine j_goto hg (tgt := 2) dM_carry_43 (by decide) ?_
      refine j_pick [1, 0] (lv' := [(0, .ref h), (1, .int (nI (i + 1)))]) rfl ?_
      exact ih (i + 1) (by omega)
  exact loop (34) 0 (by omega)

def rm_M_settle : Room := { frames := 1, cells := 0, slots := 0, locals := 21 }
set_option maxHeartbeats 1000000 in
set_option maxRecDepth 100000 in
theorem c_M_settle (l : Launch) (E : Ev) (h mt mo mk mn mr mh mw mi mv mb ms mu mp mc mx mg ma : Nat) (tn on rc tx : Nat) (x : PA) : MC E l yM_settle (cT yM_settle cM_settle 3 none) rm_M_settle [.ref h] [ob h 4 [.ref mt, .int (nI tn), .ref mo, .int (nI on), .ref mk, .ref mn, .ref mr, .int (nI rc), .ref mh, .ref mw, .ref mi, .ref mv, .ref mb, .ref ms, .ref mu, .ref mp, .ref mc, .ref mx, .ref mg, .ref ma, .int (nI tx)], aI E mp 35 x.1, aI E ma 19 x.2] Unit (fun _ => True) (fun _ => none) (fun _ => [ob h 4 [.ref mt, .int (nI tn), .ref mo, .int (nI on), .ref mk, .ref mn, .ref mr, .int (nI rc), .ref mh, .ref mw, .ref mi, .ref mv, .ref mb, .ref ms, .ref mu, .ref mp, .ref mc, .ref mx, .ref mg, .ref ma, .int (nI tx)], aI E mp 35 ((stl x).1), aI E ma 19 ((stl x).2)]) := by
  refine MC.of (cc := cM_settle) (nL := 3) (ret := none) (by decide) rfl cT_in (Nat.le_of_ble_eq_true rfl) (fun g hg hR => ?_)
  show J E 3 g [ob h 4 [.ref mt, .int (nI tn), .ref mo, .int (nI on), .ref mk, .ref mn, .ref mr, .int (nI rc), .ref mh, .ref mw, .ref mi, .ref mv, .ref mb, .ref ms, .ref mu, .ref mp, .ref mc, .ref mx, .ref mg, .ref ma, .int (nI tx)], aI E mp 35 x.1, aI E ma 19 x.2] [(0, .ref h)] 0 0 0 []
  refine j_iconst hg (v := 0) dM_settle_0 (by decide) ?_
  refine j_istore_n hg (lv' := [(1, .int 0), (0, .ref h)]) dM_settle_1 rfl (by decide) rfl ?_
  refine j_pick [1, 0] (lv' := [(0, .ref h), (1, .int 0)]) rfl ?_
  have loop : ∀ (zk i : Nat), i + zk = 3 → J E 3 g [ob h 4 [.ref mt, .int (nI tn), .ref mo, .int (nI on), .ref mk, .ref mn, .ref mr, .int (nI rc), .ref mh, .ref mw, .ref mi, .ref mv, .ref mb, .ref ms, .ref mu, .ref mp, .ref mc, .ref mx, .ref mg, .ref ma, .int (nI tx)], aI E mp 35 ((seN x i).1), aI E ma 19 ((seN x i).2)] [(0, .ref h), (1, .int (nI i))] 0 0 2 [] := by
    intro zk
    induction zk with
    | zero =>
      intro i  hi
      obtain rfl : 3 = i := by omega
      refine j_iload_n hg 1 dM_settle_2 rfl rfl ?_
      refine j_iconst hg (v := 3) dM_settle_3 (by decide) ?_
      refine j_nge_t hg (tgt := 129) 3 3 rfl rfl (by omega) (by omega) (by omega) dM_settle_4 (by decide) ?_
      refine j_aload_n hg 0 dM_settle_129 rfl rfl ?_
      refine j_callV hg (n := 0) (y := yM_carry) (rm := rm_M_carry) (Ws := (cT yM_carry cM_carry 2 none)) (As := []) (rest := []) (wr := [aI E ma 19 ((seN x 3).2)]) 0 rfl rfl (c_M_carry l E h mt mo mk mn mr mh mw mi mv mb ms mu mp mc mx mg ma tn on rc tx ((seN x 3).1)) (gdV m450 m452 ms23 m5 m453) rfl (by decide +kernel) ⟨by decide, by decide⟩ rfl rfl (Nat.le_of_ble_eq_true rfl) ⟨by decide, by decide⟩ [0, 1] [2] rfl rfl (by decide) (by decide) (by decide) dM_settle_130 (fun _ _ => ?_)
      show J E 3 g [aI E ma 19 ((seN x 3).2), ob h 4 [.ref mt, .int (nI tn), .ref mo, .int (nI on), .ref mk, .ref mn, .ref mr, .int (nI rc), .ref mh, .ref mw, .ref mi, .ref mv, .ref mb, .ref ms, .ref mu, .ref mp, .ref mc, .ref mx, .ref mg, .ref ma, .int (nI tx)], aI E mp 35 (mcar ((seN x 3).1) 34)] [(0, .ref h), (1, .int 3)] 0 0 133 []
      exact j_vret hg hR () trivial rfl [1, 2, 0] rfl (by decide) (by decide) (by decide) dM_settle_133
    | succ zk ih =>
      intro i  hi
      refine j_iload_n hg 1 dM_settle_2 rfl rfl ?_
      refine j_iconst hg (v := 3) dM_settle_3 (by decide) ?_
      refine j_nge_f hg (tgt := 129) i 3 rfl rfl (by omega) (by omega) (by omega) dM_settle_4 (by decide) ?_
      refine j_aload_n hg 0 dM_settle_7 rfl rfl ?_
      refine j_callV hg (n := 0) (y := yM_carry) (rm := rm_M_carry) (Ws := (cT yM_carry cM_carry 2 none)) (As := []) (rest := []) (wr := [aI E ma 19 ((seN x i).2)]) 0 rfl rfl (c_M_carry l E h mt mo mk mn mr mh mw mi mv mb ms mu mp mc mx mg ma tn on rc tx ((seN x i).1)) (gdV m450 m452 ms23 m5 m453) rfl (by decide +kernel) ⟨by decide, by decide⟩ rfl rfl (Nat.le_of_ble_eq_true rfl) ⟨by decide, by decide⟩ [0, 1] [2] rfl rfl (by decide) (by decide) (by decide) dM_settle_8 (fun _ _ => ?_)
      show J E 3 g [aI E ma 19 ((seN x i).2), ob h 4 [.ref mt, .int (nI tn), .ref mo, .int (nI on), .ref mk, .ref mn, .ref mr, .int (nI rc), .ref mh, .ref mw, .ref mi, .ref mv, .ref mb, .ref ms, .ref mu, .ref mp, .ref mc, .ref mx, .ref mg, .ref ma, .int (nI tx)], aI E mp 35 (mcar ((seN x i).1) 34)] [(0, .ref h), (1, .int (nI i))] 0 0 11 []
      refine j_iconst hg (v := 0) dM_settle_11 (by decide) ?_
      refine j_istore_n hg (lv' := [(2, .int 0), (0, .ref h), (1, .int (nI i))]) dM_settle_12 rfl (by decide) rfl ?_
      refine j_sub [1, 2, 0] (ws' := [ob h 4 [.ref mt, .int (nI tn), .ref mo, .int (nI on), .ref mk, .ref mn, .ref mr, .int (nI rc), .ref mh, .ref mw, .ref mi, .ref mv, .ref mb, .ref ms, .ref mu, .ref mp, .ref mc, .ref mx, .ref mg, .ref ma, .int (nI tx)], aI E mp 35 (mcar ((seN x i).1) 34), aI E ma 19 ((seN x i).2)]) rfl (by decide) ?_
      refine j_pick [1, 2, 0] (lv' := [(0, .ref h), (1, .int (nI i)), (2, .int 0)]) rfl ?_
      have loop2 : ∀ (zk j : Nat), j + zk = 18 → J E 3 g [ob h 4 [.ref mt, .int (nI tn), .ref mo, .int (nI on), .ref mk, .ref mn, .ref mr, .int (nI rc), .ref mh, .ref mw, .ref mi, .ref mv, .ref mb, .ref ms, .ref mu, .ref mp, .ref mc, .ref mx, .ref mg, .ref ma, .int (nI tx)], aI E mp 35 (mcar (seN x i).1 34), aI E ma 19 (abv (mcar (seN x i).1 34) (seN x i).2 j)] [(0, .ref h), (1, .int (nI i)), (2, .int (nI j))] 0 0 13 [] := by
        intro zk
        induction zk with
        | zero =>
          intro j  hi
          obtain rfl : 18 = j := by omega
          refine j_iload_n hg 2 dM_settle_13 rfl rfl ?_
          refine j_bipush hg (v := 18) dM_settle_14 (by decide) ?_
          refine j_nge_t hg (tgt := 59) 18 18 rfl rfl (by omega) (by omega) (by omega) dM_settle_16 (by decide) ?_
          refine j_bipush hg (v := 17) dM_settle_59 (by decide) ?_
          refine j_istore_n hg (lv' := [(2, .int 17), (0, .ref h), (1, .int (nI i))]) dM_settle_61 rfl (by decide) rfl ?_
          refine j_pick [1, 2, 0] (lv' := [(0, .ref h), (1, .int (nI i)), (2, .int 17)]) rfl ?_
          have loop3 : ∀ (zk j : Nat), j + zk = 18 → J E 3 g [ob h 4 [.ref mt, .int (nI tn), .ref mo, .int (nI on), .ref mk, .ref mn, .ref mr, .int (nI rc), .ref mh, .ref mw, .ref mi, .ref mv, .ref mb, .ref ms, .ref mu, .ref mp, .ref mc, .ref mx, .ref mg, .ref ma, .int (nI tx)], aI E mp 35 (zrF (mcar (seN x i).1 34) 17 j), aI E ma 19 (abv (mcar (seN x i).1 34) (seN x i).2 18)] [(0, .ref h), (1, .int (nI i)), (2, .int (nI (17 + j)))] 0 0 62 [] := by
            intro zk
            induction zk with
            | zero =>
              intro j  hi
              obtain rfl : 18 = j := by omega
              refine j_iload_n hg 2 dM_settle_62 rfl rfl ?_
              refine j_bipush hg (v := 35) dM_settle_63 (by decide) ?_
              refine j_nge_t hg (tgt := 81) (17 + 18) 35 rfl rfl (by omega) (by omega) (by omega) dM_settle_65 (by decide) ?_
              refine j_aload_n hg 0 dM_settle_81 rfl rfl ?_
              refine j_get hg (C := RX4) (T := TX4) (N := 21) inX4 0 rfl rfl 15 (by decide) m343 rfl dM_settle_82 ?_
              refine j_bipush hg (v := 16) dM_settle_85 (by decide) ?_
              refine j_dup2_11 hg dM_settle_87 rfl rfl ?_
              refine j_iald hg (v := (zrF (mcar (seN x i).1 34) 17 18) 16) 1 16 rfl rfl (by omega) (by omega) rfl dM_settle_88 ?_
              refine j_iconst hg (v := 3) dM_settle_89 (by decide) ?_
              refine j_iand hg (v := ((zrF (mcar (seN x i).1 34) 17 18) 16) &&& 3) dM_settle_90 rfl ?_
              refine j_iast hg (ws' := [ob h 4 [.ref mt, .int (nI tn), .ref mo, .int (nI on), .ref mk, .ref mn, .ref mr, .int (nI rc), .ref mh, .ref mw, .ref mi, .ref mv, .ref mb, .ref ms, .ref mu, .ref mp, .ref mc, .ref mx, .ref mg, .ref ma, .int (nI tx)], aI E mp 35 (upd (zrF (mcar (seN x i).1 34) 17 18) 16 (((zrF (mcar (seN x i).1 34) 17 18) 16) &&& 3)), aI E ma 19 (abv (mcar (seN x i).1 34) (seN x i).2 18)]) 1 16 rfl rfl (by omega) (by omega) rfl dM_settle_91 ?_
              refine j_iconst hg (v := 0) dM_settle_92 (by decide) ?_
              refine j_istore_n hg (lv' := [(2, .int 0), (0, .ref h), (1, .int (nI i))]) dM_settle_93 rfl (by decide) rfl ?_
              show J E 3 g [ob h 4 [.ref mt, .int (nI tn), .ref mo, .int (nI on), .ref mk, .ref mn, .ref mr, .int (nI rc), .ref mh, .ref mw, .ref mi, .ref mv, .ref mb, .ref ms, .ref mu, .ref mp, .ref mc, .ref mx, .ref mg, .ref ma, .int (nI tx)], aI E mp 35 (z3F (seN x i).1), aI E ma 19 (abv (mcar (seN x i).1 34) (seN x i).2 18)] [(2, .int 0), (0, .ref h), (1, .int (nI i))] 0 0 94 []
              refine j_pick [1, 2, 0] (lv' := [(0, .ref h), (1, .int (nI i)), (2, .int 0)]) rfl ?_
              have loop4 : ∀ (zk j : Nat), j + zk = 18 → J E 3 g [ob h 4 [.ref mt, .int (nI tn), .ref mo, .int (nI on), .ref mk, .ref mn, .ref mr, .int (nI rc), .ref mh, .ref mw, .ref mi, .ref mv, .ref mb, .ref ms, .ref mu, .ref mp, .ref mc, .ref mx, .ref mg, .ref ma, .int (nI tx)], aI E mp 35 (fvF (z3F (seN x i).1) (abv (mcar (seN x i).1 34) (seN x i).2 18) j), aI E ma 19 (abv (mcar (seN x i).1 34) (seN x i).2 18)] [(0, .ref h), (1, .int (nI i)), (2, .int (nI j))] 0 0 94 [] := by
                intro zk
                induction zk with
                | zero =>
                  intro j  hi
                  obtain rfl : 18 = j := by omega
                  refine j_iload_n hg 2 dM_settle_94 rfl rfl ?_
                  refine j_bipush hg (v := 18) dM_settle_95 (by decide) ?_
                  refine j_nge_t hg (tgt := 123) 18 18 rfl rfl (by omega) (by omega) (by omega) dM_settle_97 (by decide) ?_
                  refine j_iinc hg (kq := 1) (v := nI (i + 1)) (lv' := [(1, .int (nI (i + 1))), (0, .ref h), (2, .int 18)]) dM_settle_123 rfl (nI_add i 1) (by decide) rfl ?_
                  refine j_goto hg (tgt := 2) dM_settle_126 (by decide) ?_
                  refine j_pick [1, 0] (lv' := [(0, .ref h), (1, .int (nI (i + 1)))]) rfl ?_
                  have ih1 := ih (i + 1) (by omega)
                  have es : seN x (i + 1) = se0 (seN x i) := by show seF _ = _; rw [seF_eq]
                  rw [es] at ih1
                  exact ih1
                | succ zk ih =>
                  intro j  hi
                  refine j_iload_n hg 2 dM_settle_94 rfl rfl ?_
                  refine j_bipush hg (v := 18) dM_settle_95 (by decide) ?_
                  refine j_nge_f hg (tgt := 123) j 18 rfl rfl (by omega) (by omega) (by omega) dM_settle_97 (by decide) ?_
                  refine j_aload_n hg 0 dM_settle_100 rfl rfl ?_
                  refine j_get hg (C := RX4) (T := TX4) (N := 21) inX4 0 rfl rfl 15 (by decide) m343 rfl dM_settle_101 ?_
                  refine j_iload_n hg 2 dM_settle_104 rfl rfl ?_
                  refine j_dup2_11 hg dM_settle_105 rfl rfl ?_
                  refine j_iald hg (v := (fvF (z3F (seN x i).1) (abv (mcar (seN x i).1 34) (seN x i).2 18) j) j) 1 j rfl rfl (by omega) (by omega) rfl dM_settle_106 ?_
                  refine j_iconst hg (v := 5) dM_settle_107 (by decide) ?_
                  refine j_aload_n hg 0 dM_settle_108 rfl rfl ?_
                  refine j_get hg (C := RX4) (T := TX4) (N := 21) inX4 0 rfl rfl 19 (by decide) m347 rfl dM_settle_109 ?_
                  refine j_iload_n hg 2 dM_settle_112 rfl rfl ?_
                  refine j_iald hg (v := (abv (mcar (seN x i).1 34) (seN x i).2 18) j) 2 j rfl rfl (by omega) (by omega) rfl dM_settle_113 ?_
                  refine j_imul hg (v := 5 * ((abv (mcar (seN x i).1 34) (seN x i).2 18) j)) dM_settle_114 rfl ?_
                  refine j_iadd hg (v := ((fvF (z3F (seN x i).1) (abv (mcar (seN x i).1 34) (seN x i).2 18) j) j) + (5 * ((abv (mcar (seN x i).1 34) (seN x i).2 18) j))) dM_settle_115 rfl ?_
                  refine j_iast hg (ws' := [ob h 4 [.ref mt, .int (nI tn), .ref mo, .int (nI on), .ref mk, .ref mn, .ref mr, .int (nI rc), .ref mh, .ref mw, .ref mi, .ref mv, .ref mb, .ref ms, .ref mu, .ref mp, .ref mc, .ref mx, .ref mg, .ref ma, .int (nI tx)], aI E mp 35 (upd (fvF (z3F (seN x i).1) (abv (mcar (seN x i).1 34) (seN x i).2 18) j) j (((fvF (z3F (seN x i).1) (abv (mcar (seN x i).1 34) (seN x i).2 18) j) j) + (5 * ((abv (mcar (seN x i).1 34) (seN x i).2 18) j)))), aI E ma 19 (abv (mcar (seN x i).1 34) (seN x i).2 18)]) 1 j rfl rfl (by omega) (by omega) rfl dM_settle_116 ?_
                  refine j_iinc hg (kq := 2) (v := nI (j + 1)) (lv' := [(2, .int (nI (j + 1))), (0, .ref h), (1, .int (nI i))]) dM_settle_117 rfl (nI_add j 1) (by decide) rfl ?_
                  refine j_goto hg (tgt := 94) dM_settle_120 (by decide) ?_
                  refine j_pick [1, 2, 0] (lv' := [(0, .ref h), (1, .int (nI i)), (2, .int (nI (j + 1)))]) rfl ?_
                  exact ih (j + 1) (by omega)
              exact loop4 (18) 0 (by omega)
            | succ zk ih =>
              intro j  hi
              refine j_iload_n hg 2 dM_settle_62 rfl rfl ?_
              refine j_bipush hg (v := 35) dM_settle_63 (by decide) ?_
              refine j_nge_f hg (tgt := 81) (17 + j) 35 rfl rfl (by omega) (by omega) (by omega) dM_settle_65 (by decide) ?_
              refine j_aload_n hg 0 dM_settle_68 rfl rfl ?_
              refine j_get hg (C := RX4) (T := TX4) (N := 21) inX4 0 rfl rfl 15 (by decide) m343 rfl dM_settle_69 ?_
              refine j_iload_n hg 2 dM_settle_72 rfl rfl ?_
              refine j_iconst hg (v := 0) dM_settle_73 (by decide) ?_
              refine j_iast hg (ws' := [ob h 4 [.ref mt, .int (nI tn), .ref mo, .int (nI on), .ref mk, .ref mn, .ref mr, .int (nI rc), .ref mh, .ref mw, .ref mi, .ref mv, .ref mb, .ref ms, .ref mu, .ref mp, .ref mc, .ref mx, .ref mg, .ref ma, .int (nI tx)], aI E mp 35 (upd (zrF (mcar (seN x i).1 34) 17 j) (17 + j) 0), aI E ma 19 (abv (mcar (seN x i).1 34) (seN x i).2 18)]) 1 (17 + j) rfl rfl (by omega) (by omega) rfl dM_settle_74 ?_
              refine j_iinc hg (kq := 2) (v := nI (17 + (j + 1))) (lv' := [(2, .int (nI (17 + (j + 1)))), (0, .ref h), (1, .int (nI i))]) dM_settle_75 rfl (Eq.trans (nI_add (17 + j) 1) (congrArg nI (by omega))) (by decide) rfl ?_
              refine j_goto hg (tgt := 62) dM_settle_78 (by decide) ?_
              refine j_pick [1, 2, 0] (lv' := [(0, .ref h), (1, .int (nI i)), (2, .int (nI (17 + (j + 1))))]) rfl ?_
              exact ih (j + 1) (by omega)
          exact loop3 (18) 0 (by omega)
        | succ zk ih =>
          intro j  hi
          refine j_iload_n hg 2 dM_settle_13 rfl rfl ?_
          refine j_bipush hg (v := 18) dM_settle_14 (by decide) ?_
          refine j_nge_f hg (tgt := 59) j 18 rfl rfl (by omega) (by omega) (by omega) dM_settle_16 (by decide) ?_
          refine j_aload_n hg 0 dM_settle_19 rfl rfl ?_
          refine j_get hg (C := RX4) (T := TX4) (N := 21) inX4 0 rfl rfl 19 (by decide) m347 rfl dM_settle_20 ?_
          refine j_iload_n hg 2 dM_settle_23 rfl rfl ?_
          refine j_aload_n hg 0 dM_settle_24 rfl rfl ?_
          refine j_get hg (C := RX4) (T := TX4) (N := 21) inX4 0 rfl rfl 15 (by decide) m343 rfl dM_settle_25 ?_
          refine j_bipush hg (v := 16) dM_settle_28 (by decide) ?_
          refine j_iload_n hg 2 dM_settle_30 rfl rfl ?_
          refine j_iadd hg (v := nI (16 + j)) dM_settle_31 (nI_add 16 j) ?_
          refine j_iald hg (v := (mcar (seN x i).1 34) (16 + j)) 1 (16 + j) rfl rfl (by omega) (by omega) rfl dM_settle_32 ?_
          refine j_iconst hg (v := 2) dM_settle_33 (by decide) ?_
          refine j_ishr hg (v := shr ((mcar (seN x i).1 34) (16 + j)) 2) dM_settle_34 rfl ?_
          refine j_aload_n hg 0 dM_settle_35 rfl rfl ?_
          refine j_get hg (C := RX4) (T := TX4) (N := 21) inX4 0 rfl rfl 15 (by decide) m343 rfl dM_settle_36 ?_
          refine j_bipush hg (v := 17) dM_settle_39 (by decide) ?_
          refine j_iload_n hg 2 dM_settle_41 rfl rfl ?_
          refine j_iadd hg (v := nI (17 + j)) dM_settle_42 (nI_add 17 j) ?_
          refine j_iald hg (v := (mcar (seN x i).1 34) (17 + j)) 1 (17 + j) rfl rfl (by omega) (by omega) rfl dM_settle_43 ?_
          refine j_bipush hg (v := 6) dM_settle_44 (by decide) ?_
          refine j_ishl hg (v := shl ((mcar (seN x i).1 34) (17 + j)) 6) dM_settle_46 rfl ?_
          refine j_sipush hg (v := 255) dM_settle_47 (by decide) ?_
          refine j_iand hg (v := (shl ((mcar (seN x i).1 34) (17 + j)) 6) &&& 255) dM_settle_50 rfl ?_
          refine j_ior hg (v := (shr ((mcar (seN x i).1 34) (16 + j)) 2) ||| ((shl ((mcar (seN x i).1 34) (17 + j)) 6) &&& 255)) dM_settle_51 rfl ?_
          refine j_iast hg (ws' := [ob h 4 [.ref mt, .int (nI tn), .ref mo, .int (nI on), .ref mk, .ref mn, .ref mr, .int (nI rc), .ref mh, .ref mw, .ref mi, .ref mv, .ref mb, .ref ms, .ref mu, .ref mp, .ref mc, .ref mx, .ref mg, .ref ma, .int (nI tx)], aI E mp 35 (mcar (seN x i).1 34), aI E ma 19 (upd (abv (mcar (seN x i).1 34) (seN x i).2 j) j ((shr ((mcar (seN x i).1 34) (16 + j)) 2) ||| ((shl ((mcar (seN x i).1 34) (17 + j)) 6) &&& 255)))]) 2 j rfl rfl (by omega) (by omega) rfl dM_settle_52 ?_
          refine j_iinc hg (kq := 2) (v := nI (j + 1)) (lv' := [(2, .int (nI (j + 1))), (0, .ref h), (1, .int (nI i))]) dM_settle_53 rfl (nI_add j 1) (by decide) rfl ?_
          refine j_goto hg (tgt := 13) dM_settle_56 (by decide) ?_
          refine j_pick [1, 2, 0] (lv' := [(0, .ref h), (1, .int (nI i)), (2, .int (nI (j + 1)))]) rfl ?_
          exact ih (j + 1) (by omega)
      exact loop2 (18) 0 (by omega)
  exact loop (3) 0 (by omega)

def rm_M_sumOf : Room := { frames := 2, cells := 0, slots := 0, locals := 43 }
set_option maxHeartbeats 1000000 in
set_option maxRecDepth 100000 in
theorem c_M_sumOf (l : Launch) (E : Ev) (h mt mo mk mn mr mh mw mi mv mb ms mu mp mc mx mg ma : Nat) (tn on rc tx : Nat) (rr bn : Nat) (by_ txt : Nat → Int32) (y : S5) (m : Nat) (h1 : 32 ≤ bn) (h2 : bn < 1000000) (h3 : m ≤ 864) : MC E l yM_sumOf (cT yM_sumOf cM_sumOf 7 none) rm_M_sumOf [.ref h, .ref rr, .int (nI m)] [ob h 4 [.ref mt, .int (nI tn), .ref mo, .int (nI on), .ref mk, .ref mn, .ref mr, .int (nI rc), .ref mh, .ref mw, .ref mi, .ref mv, .ref mb, .ref ms, .ref mu, .ref mp, .ref mc, .ref mx, .ref mg, .ref ma, .int (nI tx)], aI E mc 16 y.1, aI E mu 17 y.2.1, aI E mp 35 y.2.2.1, aI E ma 19 y.2.2.2.1, aB E mg 16 y.2.2.2.2, aB E mx 864 txt, aB E rr bn by_] Unit (fun _ => True) (fun _ => none) (fun _ => [ob h 4 [.ref mt, .int (nI tn), .ref mo, .int (nI on), .ref mk, .ref mn, .ref mr, .int (nI rc), .ref mh, .ref mw, .ref mi, .ref mv, .ref mb, .ref ms, .ref mu, .ref mp, .ref mc, .ref mx, .ref mg, .ref ma, .int (nI tx)], aI E mc 16 ((smF y by_ txt m).1), aI E mu 17 ((smF y by_ txt m).2.1), aI E mp 35 ((smF y by_ txt m).2.2.1), aI E ma 19 ((smF y by_ txt m).2.2.2.1), aB E mg 16 ((smF y by_ txt m).2.2.2.2), aB E mx 864 txt, aB E rr bn by_]) := by
  refine MC.of (cc := cM_sumOf) (nL := 7) (ret := none) (by decide) rfl cT_in (Nat.le_of_ble_eq_true rfl) (fun g hg hR => ?_)
  show J E 7 g [ob h 4 [.ref mt, .int (nI tn), .ref mo, .int (nI on), .ref mk, .ref mn, .ref mr, .int (nI rc), .ref mh, .ref mw, .ref mi, .ref mv, .ref mb, .ref ms, .ref mu, .ref mp, .ref mc, .ref mx, .ref mg, .ref ma, .int (nI tx)], aI E mc 16 y.1, aI E mu 17 y.2.1, aI E mp 35 y.2.2.1, aI E ma 19 y.2.2.2.1, aB E mg 16 y.2.2.2.2, aB E mx 864 txt, aB E rr bn by_] [(0, .ref h), (1, .ref rr), (2, .int (nI m))] 0 0 0 []
  refine j_iconst hg (v := 0) dM_sumOf_0 (by decide) ?_
  refine j_istore_n hg (lv' := [(3, .int 0), (0, .ref h), (1, .ref rr), (2, .int (nI m))]) dM_sumOf_1 rfl (by decide) rfl ?_
  refine j_pick [1, 2, 3, 0] (lv' := [(0, .ref h), (1, .ref rr), (2, .int (nI m)), (3, .int 0)]) rfl ?_
  have loop : ∀ (zk i : Nat), i + zk = 16 → J E 7 g [ob h 4 [.ref mt, .int (nI tn), .ref mo, .int (nI on), .ref mk, .ref mn, .ref mr, .int (nI rc), .ref mh, .ref mw, .ref mi, .ref mv, .ref mb, .ref ms, .ref mu, .ref mp, .ref mc, .ref mx, .ref mg, .ref ma, .int (nI tx)], aI E mc 16 (rF y.1 by_ i), aI E mu 17 y.2.1, aI E mp 35 y.2.2.1, aI E ma 19 y.2.2.2.1, aB E mg 16 y.2.2.2.2, aB E mx 864 txt, aB E rr bn by_] [(0, .ref h), (1, .ref rr), (2, .int (nI m)), (3, .int (nI i))] 0 0 2 [] := by
    intro zk
    induction zk with
    | zero =>
      intro i  hi
      obtain rfl : 16 = i := by omega
      refine j_iload_n hg 3 dM_sumOf_2 rfl rfl ?_
      refine j_bipush hg (v := 16) dM_sumOf_3 (by decide) ?_
      refine j_nge_t hg (tgt := 55) 16 16 rfl rfl (by omega) (by omega) (by omega) dM_sumOf_5 (by decide) ?_
      refine j_iconst hg (v := 0) dM_sumOf_55 (by decide) ?_
      refine j_istore_n hg (lv' := [(3, .int 0), (0, .ref h), (1, .ref rr), (2, .int (nI m))]) dM_sumOf_56 rfl (by decide) rfl ?_
      refine j_pick [1, 2, 3, 0] (lv' := [(0, .ref h), (1, .ref rr), (2, .int (nI m)), (3, .int 0)]) rfl ?_
      have loop2 : ∀ (zk i : Nat), i + zk = 17 → J E 7 g [ob h 4 [.ref mt, .int (nI tn), .ref mo, .int (nI on), .ref mk, .ref mn, .ref mr, .int (nI rc), .ref mh, .ref mw, .ref mi, .ref mv, .ref mb, .ref ms, .ref mu, .ref mp, .ref mc, .ref mx, .ref mg, .ref ma, .int (nI tx)], aI E mc 16 (rF y.1 by_ 16), aI E mu 17 (zr0 y.2.1 i), aI E mp 35 y.2.2.1, aI E ma 19 y.2.2.2.1, aB E mg 16 y.2.2.2.2, aB E mx 864 txt, aB E rr bn by_] [(0, .ref h), (1, .ref rr), (2, .int (nI m)), (3, .int (nI i))] 0 0 57 [] := by
        intro zk
        induction zk with
        | zero =>
          intro i  hi
          obtain rfl : 17 = i := by omega
          refine j_iload_n hg 3 dM_sumOf_57 rfl rfl ?_
          refine j_bipush hg (v := 17) dM_sumOf_58 (by decide) ?_
          refine j_nge_t hg (tgt := 76) 17 17 rfl rfl (by omega) (by omega) (by omega) dM_sumOf_60 (by decide) ?_
          refine j_iconst hg (v := 0) dM_sumOf_76 (by decide) ?_
          refine j_istore_n hg (lv' := [(3, .int 0), (0, .ref h), (1, .ref rr), (2, .int (nI m))]) dM_sumOf_77 rfl (by decide) rfl ?_
          show J E 7 g [ob h 4 [.ref mt, .int (nI tn), .ref mo, .int (nI on), .ref mk, .ref mn, .ref mr, .int (nI rc), .ref mh, .ref mw, .ref mi, .ref mv, .ref mb, .ref ms, .ref mu, .ref mp, .ref mc, .ref mx, .ref mg, .ref ma, .int (nI tx)], aI E mc 16 (rF y.1 by_ 16), aI E mu 17 ((zr0 y.2.1 17, y.2.2.1, y.2.2.2.1).1), aI E mp 35 ((zr0 y.2.1 17, y.2.2.1, y.2.2.2.1).2.1), aI E ma 19 ((zr0 y.2.1 17, y.2.2.1, y.2.2.2.1).2.2), aB E mg 16 y.2.2.2.2, aB E mx 864 txt, aB E rr bn by_] [(3, .int 0), (0, .ref h), (1, .ref rr), (2, .int (nI m))] 0 0 78 []
          refine j_pick [1, 2, 3, 0] (lv' := [(0, .ref h), (1, .ref rr), (2, .int (nI m)), (3, .int 0)]) rfl ?_
          have loop3 : ∀ (zk i : Nat), i + zk = (m + 15) / 16 → J E 7 g [ob h 4 [.ref mt, .int (nI tn), .ref mo, .int (nI on), .ref mk, .ref mn, .ref mr, .int (nI rc), .ref mh, .ref mw, .ref mi, .ref mv, .ref mb, .ref ms, .ref mu, .ref mp, .ref mc, .ref mx, .ref mg, .ref ma, .int (nI tx)], aI E mc 16 (rF y.1 by_ 16), aI E mu 17 ((sbN (zr0 y.2.1 17, y.2.2.1, y.2.2.2.1) (rF y.1 by_ 16) txt m i).1), aI E mp 35 ((sbN (zr0 y.2.1 17, y.2.2.1, y.2.2.2.1) (rF y.1 by_ 16) txt m i).2.1), aI E ma 19 ((sbN (zr0 y.2.1 17, y.2.2.1, y.2.2.2.1) (rF y.1 by_ 16) txt m i).2.2), aB E mg 16 y.2.2.2.2, aB E mx 864 txt, aB E rr bn by_] [(0, .ref h), (1, .ref rr), (2, .int (nI m)), (3, .int (nI (16 * i)))] 0 0 78 [] := by
            intro zk
            induction zk with
            | zero =>
              intro i  hi
              obtain rfl : (m + 15) / 16 = i := by omega
              refine j_iload_n hg 3 dM_sumOf_78 rfl rfl ?_
              refine j_iload_n hg 2 dM_sumOf_79 rfl rfl ?_
              refine j_nge_t hg (tgt := 275) (16 * ((m + 15) / 16)) m rfl rfl (by omega) (by omega) (by omega) dM_sumOf_80 (by decide) ?_
              refine j_iconst hg (v := 0) dM_sumOf_275 (by decide) ?_
              refine j_istore_n hg (lv' := [(3, .int 0), (0, .ref h), (1, .ref rr), (2, .int (nI m))]) dM_sumOf_276 rfl (by decide) rfl ?_
              show J E 7 g [ob h 4 [.ref mt, .int (nI tn), .ref mo, .int (nI on), .ref mk, .ref mn, .ref mr, .int (nI rc), .ref mh, .ref mw, .ref mi, .ref mv, .ref mb, .ref ms, .ref mu, .ref mp, .ref mc, .ref mx, .ref mg, .ref ma, .int (nI tx)], aI E mc 16 (rF y.1 by_ 16), aI E mu 17 ((smX y by_ txt m).1), aI E mp 35 ((smX y by_ txt m).2.1), aI E ma 19 ((smX y by_ txt m).2.2), aB E mg 16 y.2.2.2.2, aB E mx 864 txt, aB E rr bn by_] [(3, .int 0), (0, .ref h), (1, .ref rr), (2, .int (nI m))] 0 0 277 []
              refine j_pick [1, 2, 3, 0] (lv' := [(0, .ref h), (1, .ref rr), (2, .int (nI m)), (3, .int 0)]) rfl ?_
              have loop9 : ∀ (zk i : Nat), i + zk = 35 → J E 7 g [ob h 4 [.ref mt, .int (nI tn), .ref mo, .int (nI on), .ref mk, .ref mn, .ref mr, .int (nI rc), .ref mh, .ref mw, .ref mi, .ref mv, .ref mb, .ref ms, .ref mu, .ref mp, .ref mc, .ref mx, .ref mg, .ref ma, .int (nI tx)], aI E mc 16 (rF y.1 by_ 16), aI E mu 17 ((smX y by_ txt m).1), aI E mp 35 (pzF (smX y by_ txt m).2.1 (smX y by_ txt m).1 i), aI E ma 19 ((smX y by_ txt m).2.2), aB E mg 16 y.2.2.2.2, aB E mx 864 txt, aB E rr bn by_] [(0, .ref h), (1, .ref rr), (2, .int (nI m)), (3, .int (nI i))] 0 0 277 [] := by
                intro zk
                induction zk with
                | zero =>
                  intro i  hi
                  obtain rfl : 35 = i := by omega
                  refine j_iload_n hg 3 dM_sumOf_277 rfl rfl ?_
                  refine j_bipush hg (v := 35) dM_sumOf_278 (by decide) ?_
                  refine j_nge_t hg (tgt := 311) 35 35 rfl rfl (by omega) (by omega) (by omega) dM_sumOf_280 (by decide) ?_
                  refine j_aload_n hg 0 dM_sumOf_311 rfl rfl ?_
                  refine j_callV hg (n := 0) (y := yM_settle) (rm := rm_M_settle) (Ws := (cT yM_settle cM_settle 3 none)) (As := []) (rest := []) (wr := [aI E mc 16 (rF y.1 by_ 16), aI E mu 17 ((smX y by_ txt m).1), aB E mg 16 y.2.2.2.2, aB E mx 864 txt, aB E rr bn by_]) 0 rfl rfl (c_M_settle l E h mt mo mk mn mr mh mw mi mv mb ms mu mp mc mx mg ma tn on rc tx (pzF (smX y by_ txt m).2.1 (smX y by_ txt m).1 35, (smX y by_ txt m).2.2)) (gdV m446 m448 ms22 m5 m449) rfl (by decide +kernel) ⟨by decide, by decide⟩ rfl rfl (Nat.le_of_ble_eq_true rfl) ⟨by decide, by decide⟩ [0, 3, 4] [1, 2, 5, 6, 7] rfl rfl (by decide) (by decide) (by decide) dM_sumOf_312 (fun _ _ => ?_)
                  show J E 7 g [aI E mc 16 (rF y.1 by_ 16), aI E mu 17 ((smX y by_ txt m).1), aB E mg 16 y.2.2.2.2, aB E mx 864 txt, aB E rr bn by_, ob h 4 [.ref mt, .int (nI tn), .ref mo, .int (nI on), .ref mk, .ref mn, .ref mr, .int (nI rc), .ref mh, .ref mw, .ref mi, .ref mv, .ref mb, .ref ms, .ref mu, .ref mp, .ref mc, .ref mx, .ref mg, .ref ma, .int (nI tx)], aI E mp 35 ((stl (pzF (smX y by_ txt m).2.1 (smX y by_ txt m).1 35, (smX y by_ txt m).2.2)).1), aI E ma 19 ((stl (pzF (smX y by_ txt m).2.1 (smX y by_ txt m).1 35, (smX y by_ txt m).2.2)).2)] [(0, .ref h), (1, .ref rr), (2, .int (nI m)), (3, .int 35)] 0 0 315 []
                  refine j_iconst hg (v := 0) dM_sumOf_315 (by decide) ?_
                  refine j_istore_n hg (lv' := [(3, .int 0), (0, .ref h), (1, .ref rr), (2, .int (nI m))]) dM_sumOf_316 rfl (by decide) rfl ?_
                  refine j_sub [5, 0, 1, 6, 7, 2, 3, 4] (ws' := [ob h 4 [.ref mt, .int (nI tn), .ref mo, .int (nI on), .ref mk, .ref mn, .ref mr, .int (nI rc), .ref mh, .ref mw, .ref mi, .ref mv, .ref mb, .ref ms, .ref mu, .ref mp, .ref mc, .ref mx, .ref mg, .ref ma, .int (nI tx)], aI E mc 16 (rF y.1 by_ 16), aI E mu 17 ((smX y by_ txt m).1), aI E mp 35 ((stl (pzF (smX y by_ txt m).2.1 (smX y by_ txt m).1 35, (smX y by_ txt m).2.2)).1), aI E ma 19 ((stl (pzF (smX y by_ txt m).2.1 (smX y by_ txt m).1 35, (smX y by_ txt m).2.2)).2), aB E mg 16 y.2.2.2.2, aB E mx 864 txt, aB E rr bn by_]) rfl (by decide) ?_
                  show J E 7 g [ob h 4 [.ref mt, .int (nI tn), .ref mo, .int (nI on), .ref mk, .ref mn, .ref mr, .int (nI rc), .ref mh, .ref mw, .ref mi, .ref mv, .ref mb, .ref ms, .ref mu, .ref mp, .ref mc, .ref mx, .ref mg, .ref ma, .int (nI tx)], aI E mc 16 (rF y.1 by_ 16), aI E mu 17 ((smX y by_ txt m).1), aI E mp 35 ((fPA (smX y by_ txt m)).1), aI E ma 19 ((fPA (smX y by_ txt m)).2), aB E mg 16 y.2.2.2.2, aB E mx 864 txt, aB E rr bn by_] [(3, .int 0), (0, .ref h), (1, .ref rr), (2, .int (nI m))] 0 0 317 []
                  refine j_pick [1, 2, 3, 0] (lv' := [(0, .ref h), (1, .ref rr), (2, .int (nI m)), (3, .int 0)]) rfl ?_
                  have loop10 : ∀ (zk i : Nat), i + zk = 17 → J E 7 g [ob h 4 [.ref mt, .int (nI tn), .ref mo, .int (nI on), .ref mk, .ref mn, .ref mr, .int (nI rc), .ref mh, .ref mw, .ref mi, .ref mv, .ref mb, .ref ms, .ref mu, .ref mp, .ref mc, .ref mx, .ref mg, .ref ma, .int (nI tx)], aI E mc 16 (rF y.1 by_ 16), aI E mu 17 (cpS (fPA (smX y by_ txt m)).1 (smX y by_ txt m).1 i), aI E mp 35 ((fPA (smX y by_ txt m)).1), aI E ma 19 ((fPA (smX y by_ txt m)).2), aB E mg 16 y.2.2.2.2, aB E mx 864 txt, aB E rr bn by_] [(0, .ref h), (1, .ref rr), (2, .int (nI m)), (3, .int (nI i))] 0 0 317 [] := by
                    intro zk
                    induction zk with
                    | zero =>
                      intro i  hi
                      obtain rfl : 17 = i := by omega
                      refine j_iload_n hg 3 dM_sumOf_317 rfl rfl ?_
                      refine j_bipush hg (v := 17) dM_sumOf_318 (by decide) ?_
                      refine j_nge_t hg (tgt := 341) 17 17 rfl rfl (by omega) (by omega) (by omega) dM_sumOf_320 (by decide) ?_
                      show J E 7 g [ob h 4 [.ref mt, .int (nI tn), .ref mo, .int (nI on), .ref mk, .ref mn, .ref mr, .int (nI rc), .ref mh, .ref mw, .ref mi, .ref mv, .ref mb, .ref ms, .ref mu, .ref mp, .ref mc, .ref mx, .ref mg, .ref ma, .int (nI tx)], aI E mc 16 (rF y.1 by_ 16), aI E mu 17 (fS (smX y by_ txt m)), aI E mp 35 ((fPA (smX y by_ txt m)).1), aI E ma 19 ((fPA (smX y by_ txt m)).2), aB E mg 16 y.2.2.2.2, aB E mx 864 txt, aB E rr bn by_] [(0, .ref h), (1, .ref rr), (2, .int (nI m)), (3, .int 17)] 0 0 341 []
                      have hmo : ∀ v : Int32, v = moN (fS (smX y by_ txt m)) 0 → J E 7 g [ob h 4 [.ref mt, .int (nI tn), .ref mo, .int (nI on), .ref mk, .ref mn, .ref mr, .int (nI rc), .ref mh, .ref mw, .ref mi, .ref mv, .ref mb, .ref ms, .ref mu, .ref mp, .ref mc, .ref mx, .ref mg, .ref ma, .int (nI tx)], aI E mc 16 (rF y.1 by_ 16), aI E mu 17 (fS (smX y by_ txt m)), aI E mp 35 ((fPA (smX y by_ txt m)).1), aI E ma 19 ((fPA (smX y by_ txt m)).2), aB E mg 16 y.2.2.2.2, aB E mx 864 txt, aB E rr bn by_] [(0, .ref h), (1, .ref rr), (2, .int (nI m))] 0 0 369 [.int v] := by
                        intro v hv
                        subst hv
                        refine j_istore_n hg (lv' := [(3, .int (moN (fS (smX y by_ txt m)) 0)), (0, .ref h), (1, .ref rr), (2, .int (nI m))]) dM_sumOf_369 rfl (by decide) rfl ?_
                        refine j_iconst hg (v := 1) dM_sumOf_370 (by decide) ?_
                        refine j_istore hg (lv' := [(4, .int 1), (3, .int (moN (fS (smX y by_ txt m)) 0)), (0, .ref h), (1, .ref rr), (2, .int (nI m))]) dM_sumOf_371 (by decide) rfl ?_
                        refine j_pick [2, 3, 4, 1, 0] (lv' := [(0, .ref h), (1, .ref rr), (2, .int (nI m)), (3, .int (moN (fS (smX y by_ txt m)) 0)), (4, .int 1)]) rfl ?_
                        have loop11 : ∀ (zk i : Nat), i + zk = 15 → J E 7 g [ob h 4 [.ref mt, .int (nI tn), .ref mo, .int (nI on), .ref mk, .ref mn, .ref mr, .int (nI rc), .ref mh, .ref mw, .ref mi, .ref mv, .ref mb, .ref ms, .ref mu, .ref mp, .ref mc, .ref mx, .ref mg, .ref ma, .int (nI tx)], aI E mc 16 (rF y.1 by_ 16), aI E mu 17 (fS (smX y by_ txt m)), aI E mp 35 ((fPA (smX y by_ txt m)).1), aI E ma 19 ((fPA (smX y by_ txt m)).2), aB E mg 16 y.2.2.2.2, aB E mx 864 txt, aB E rr bn by_] [(0, .ref h), (1, .ref rr), (2, .int (nI m)), (3, .int (moN (fS (smX y by_ txt m)) i)), (4, .int (nI (1 + i)))] 0 0 373 [] := by
                          intro zk
                          induction zk with
                          | zero =>
                            intro i  hi
                            obtain rfl : 15 = i := by omega
                            refine j_iload hg 4 dM_sumOf_373 rfl ?_
                            refine j_bipush hg (v := 16) dM_sumOf_375 (by decide) ?_
                            refine j_nge_t hg (tgt := 409) (1 + 15) 16 rfl rfl (by omega) (by omega) (by omega) dM_sumOf_377 (by decide) ?_
                            refine j_iload_n hg 3 dM_sumOf_409 rfl rfl ?_
                            have hfi : J E 7 g [ob h 4 [.ref mt, .int (nI tn), .ref mo, .int (nI on), .ref mk, .ref mn, .ref mr, .int (nI rc), .ref mh, .ref mw, .ref mi, .ref mv, .ref mb, .ref ms, .ref mu, .ref mp, .ref mc, .ref mx, .ref mg, .ref ma, .int (nI tx)], aI E mc 16 (rF y.1 by_ 16), aI E mu 17 (sFin (fS (smX y by_ txt m))), aI E mp 35 ((fPA (smX y by_ txt m)).1), aI E ma 19 ((fPA (smX y by_ txt m)).2), aB E mg 16 y.2.2.2.2, aB E mx 864 txt, aB E rr bn by_] [(0, .ref h), (1, .ref rr), (2, .int (nI m))] 0 0 449 [] := by
                              have es : smF y by_ txt m = (rF y.1 by_ 16, sFin (fS (smX y by_ txt m)), (fPA (smX y by_ txt m)).1, (fPA (smX y by_ txt m)).2, (tgS (sFin (fS (smX y by_ txt m))) by_ y.2.2.2.2 16).2) := by rw [smF_eq]; rfl
                              rw [es] at hR
                              dsimp only at hR
                              refine j_iconst hg (v := 0) dM_sumOf_449 (by decide) ?_
                              refine j_istore hg (lv' := [(4, .int 0), (0, .ref h), (1, .ref rr), (2, .int (nI m))]) dM_sumOf_450 (by decide) rfl ?_
                              refine j_iconst hg (v := 0) dM_sumOf_452 (by decide) ?_
                              refine j_istore hg (lv' := [(5, .int 0), (4, .int 0), (0, .ref h), (1, .ref rr), (2, .int (nI m))]) dM_sumOf_453 (by decide) rfl ?_
                              refine j_pick [2, 3, 4, 1, 0] (lv' := [(0, .ref h), (1, .ref rr), (2, .int (nI m)), (4, .int 0), (5, .int 0)]) rfl ?_
                              have loop12 : ∀ (zk i : Nat), i + zk = 16 → J E 7 g [ob h 4 [.ref mt, .int (nI tn), .ref mo, .int (nI on), .ref mk, .ref mn, .ref mr, .int (nI rc), .ref mh, .ref mw, .ref mi, .ref mv, .ref mb, .ref ms, .ref mu, .ref mp, .ref mc, .ref mx, .ref mg, .ref ma, .int (nI tx)], aI E mc 16 (rF y.1 by_ 16), aI E mu 17 (sFin (fS (smX y by_ txt m))), aI E mp 35 ((fPA (smX y by_ txt m)).1), aI E ma 19 ((fPA (smX y by_ txt m)).2), aB E mg 16 ((tgS (sFin (fS (smX y by_ txt m))) by_ y.2.2.2.2 i).2), aB E mx 864 txt, aB E rr bn by_] [(0, .ref h), (1, .ref rr), (2, .int (nI m)), (4, .int ((tgS (sFin (fS (smX y by_ txt m))) by_ y.2.2.2.2 i).1)), (5, .int (nI i))] 0 0 455 [] := by
                                intro zk
                                induction zk with
                                | zero =>
                                  intro i  hi
                                  obtain rfl : 16 = i := by omega
                                  refine j_iload hg 4 dM_sumOf_455 rfl ?_
                                  refine j_bipush hg (v := 16) dM_sumOf_457 (by decide) ?_
                                  refine j_nge_t hg (tgt := 509) 16 16 rfl rfl (by omega) (by omega) (by omega) dM_sumOf_459 (by decide) ?_
                                  exact j_vret hg hR () trivial rfl [0, 1, 2, 3, 4, 5, 6, 7] rfl (by decide) (by decide) (by decide) dM_sumOf_509
                                | succ zk ih =>
                                  intro i  hi
                                  refine j_iload hg 4 dM_sumOf_455 rfl ?_
                                  refine j_bipush hg (v := 16) dM_sumOf_457 (by decide) ?_
                                  refine j_nge_f hg (tgt := 509) i 16 rfl rfl (by omega) (by omega) (by omega) dM_sumOf_459 (by decide) ?_
                                  refine j_iload hg 3 dM_sumOf_462 rfl ?_
                                  refine j_aload_n hg 0 dM_sumOf_464 rfl rfl ?_
                                  refine j_get hg (C := RX4) (T := TX4) (N := 21) inX4 0 rfl rfl 14 (by decide) m342 rfl dM_sumOf_465 ?_
                                  refine j_iload hg 4 dM_sumOf_468 rfl ?_
                                  refine j_iald hg (v := (sFin (fS (smX y by_ txt m))) i) 2 i rfl rfl (by omega) (by omega) rfl dM_sumOf_470 ?_
                                  refine j_aload_n hg 1 dM_sumOf_471 rfl rfl ?_
                                  refine j_bipush hg (v := 16) dM_sumOf_472 (by decide) ?_
                                  refine j_iload hg 4 dM_sumOf_474 rfl ?_
                                  refine j_iadd hg (v := nI (16 + i)) dM_sumOf_476 (nI_add 16 i) ?_
                                  refine j_bald hg (v := by_ (16 + i)) 7 (16 + i) rfl rfl (by omega) (by omega) rfl dM_sumOf_477 ?_
                                  refine j_sipush hg (v := 255) dM_sumOf_478 (by decide) ?_
                                  refine j_iand hg (v := (by_ (16 + i)) &&& 255) dM_sumOf_481 rfl ?_
                                  refine j_iadd hg (v := ((sFin (fS (smX y by_ txt m))) i) + ((by_ (16 + i)) &&& 255)) dM_sumOf_482 rfl ?_
                                  refine j_iadd hg (v := ((tgS (sFin (fS (smX y by_ txt m))) by_ y.2.2.2.2 i).1) + (((sFin (fS (smX y by_ txt m))) i) + ((by_ (16 + i)) &&& 255))) dM_sumOf_483 rfl ?_
                                  refine j_istore hg (lv' := [(4, .int (((tgS (sFin (fS (smX y by_ txt m))) by_ y.2.2.2.2 i).1) + (((sFin (fS (smX y by_ txt m))) i) + ((by_ (16 + i)) &&& 255)))), (0, .ref h), (1, .ref rr), (2, .int (nI m)), (5, .int (nI i))]) dM_sumOf_484 (by decide) rfl ?_
                                  refine j_aload_n hg 1 dM_sumOf_486 rfl rfl ?_
                                  refine j_get hg (C := RX4) (T := TX4) (N := 21) inX4 0 rfl rfl 18 (by decide) m346 rfl dM_sumOf_487 ?_
                                  refine j_iload hg 4 dM_sumOf_490 rfl ?_
                                  refine j_iload hg 0 dM_sumOf_492 rfl ?_
                                  refine j_i2b hg (v := sB (((tgS (sFin (fS (smX y by_ txt m))) by_ y.2.2.2.2 i).1) + (((sFin (fS (smX y by_ txt m))) i) + ((by_ (16 + i)) &&& 255)))) dM_sumOf_494 rfl ?_
                                  refine j_bast hg (ws' := [ob h 4 [.ref mt, .int (nI tn), .ref mo, .int (nI on), .ref mk, .ref mn, .ref mr, .int (nI rc), .ref mh, .ref mw, .ref mi, .ref mv, .ref mb, .ref ms, .ref mu, .ref mp, .ref mc, .ref mx, .ref mg, .ref ma, .int (nI tx)], aI E mc 16 (rF y.1 by_ 16), aI E mu 17 (sFin (fS (smX y by_ txt m))), aI E mp 35 ((fPA (smX y by_ txt m)).1), aI E ma 19 ((fPA (smX y by_ txt m)).2), aB E mg 16 (upd ((tgS (sFin (fS (smX y by_ txt m))) by_ y.2.2.2.2 i).2) i (sB (((tgS (sFin (fS (smX y by_ txt m))) by_ y.2.2.2.2 i).1) + (((sFin (fS (smX y by_ txt m))) i) + ((by_ (16 + i)) &&& 255))))), aB E mx 864 txt, aB E rr bn by_]) 5 i rfl rfl (by omega) (by omega) (sB_nar _) rfl dM_sumOf_495 ?_
                                  refine j_iload hg 0 dM_sumOf_496 rfl ?_
                                  refine j_bipush hg (v := 8) dM_sumOf_498 (by decide) ?_
                                  refine j_ishr hg (v := shr (((tgS (sFin (fS (smX y by_ txt m))) by_ y.2.2.2.2 i).1) + (((sFin (fS (smX y by_ txt m))) i) + ((by_ (16 + i)) &&& 255))) 8) dM_sumOf_500 rfl ?_
                                  refine j_istore hg (lv' := [(4, .int (shr (((tgS (sFin (fS (smX y by_ txt m))) by_ y.2.2.2.2 i).1) + (((sFin (fS (smX y by_ txt m))) i) + ((by_ (16 + i)) &&& 255))) 8)), (0, .ref h), (1, .ref rr), (2, .int (nI m)), (5, .int (nI i))]) dM_sumOf_501 (by decide) rfl ?_
                                  refine j_iinc hg (kq := 4) (v := nI (i + 1)) (lv' := [(5, .int (nI (i + 1))), (4, .int (shr (((tgS (sFin (fS (smX y by_ txt m))) by_ y.2.2.2.2 i).1) + (((sFin (fS (smX y by_ txt m))) i) + ((by_ (16 + i)) &&& 255))) 8)), (0, .ref h), (1, .ref rr), (2, .int (nI m))]) dM_sumOf_503 rfl (nI_add i 1) (by decide) rfl ?_
                                  refine j_goto hg (tgt := 455) dM_sumOf_506 (by decide) ?_
                                  refine j_pick [2, 3, 4, 1, 0] (lv' := [(0, .ref h), (1, .ref rr), (2, .int (nI m)), (4, .int (shr (((tgS (sFin (fS (smX y by_ txt m))) by_ y.2.2.2.2 i).1) + (((sFin (fS (smX y by_ txt m))) i) + ((by_ (16 + i)) &&& 255))) 8)), (5, .int (nI (i + 1)))]) rfl ?_
                                  exact ih (i + 1) (by omega)
                              exact loop12 (16) 0 (by omega)
                            refine j_if_eq hg (tgt := 449) dM_sumOf_410 (by decide) (fun hc => ?_) (fun hc => ?_)
                            · skip
                              have es : sFin (fS (smX y by_ txt m)) = fS (smX y by_ txt m) := if_pos hc
                              rw [es] at hfi
                              refine j_pick [0, 1, 2] (lv' := [(0, .ref h), (1, .ref rr), (2, .int (nI m))]) rfl ?_
                              exact hfi
                            · skip
                              have es : sFin (fS (smX y by_ txt m)) = zrF (upd (fS (smX y by_ txt m)) 0 ((fS (smX y by_ txt m)) 0 - 251)) 1 16 := if_neg hc
                              rw [es] at hfi
                              refine j_aload_n hg 0 dM_sumOf_413 rfl rfl ?_
                              refine j_get hg (C := RX4) (T := TX4) (N := 21) inX4 0 rfl rfl 14 (by decide) m342 rfl dM_sumOf_414 ?_
                              refine j_iconst hg (v := 0) dM_sumOf_417 (by decide) ?_
                              refine j_dup2_11 hg dM_sumOf_418 rfl rfl ?_
                              refine j_iald hg (v := (fS (smX y by_ txt m)) 0) 2 0 rfl rfl (by omega) (by omega) rfl dM_sumOf_419 ?_
                              refine j_sipush hg (v := 251) dM_sumOf_420 (by decide) ?_
                              refine j_isub hg (v := ((fS (smX y by_ txt m)) 0) - 251) dM_sumOf_423 rfl ?_
                              refine j_iast hg (ws' := [ob h 4 [.ref mt, .int (nI tn), .ref mo, .int (nI on), .ref mk, .ref mn, .ref mr, .int (nI rc), .ref mh, .ref mw, .ref mi, .ref mv, .ref mb, .ref ms, .ref mu, .ref mp, .ref mc, .ref mx, .ref mg, .ref ma, .int (nI tx)], aI E mc 16 (rF y.1 by_ 16), aI E mu 17 (upd (fS (smX y by_ txt m)) 0 (((fS (smX y by_ txt m)) 0) - 251)), aI E mp 35 ((fPA (smX y by_ txt m)).1), aI E ma 19 ((fPA (smX y by_ txt m)).2), aB E mg 16 y.2.2.2.2, aB E mx 864 txt, aB E rr bn by_]) 2 0 rfl rfl (by omega) (by omega) rfl dM_sumOf_424 ?_
                              refine j_iconst hg (v := 1) dM_sumOf_425 (by decide) ?_
                              refine j_istore hg (lv' := [(4, .int 1), (0, .ref h), (1, .ref rr), (2, .int (nI m)), (3, .int (moN (fS (smX y by_ txt m)) 15))]) dM_sumOf_426 (by decide) rfl ?_
                              refine j_pick [1, 2, 3, 0] (lv' := [(0, .ref h), (1, .ref rr), (2, .int (nI m)), (4, .int 1)]) rfl ?_
                              have loop13 : ∀ (zk i : Nat), i + zk = 16 → J E 7 g [ob h 4 [.ref mt, .int (nI tn), .ref mo, .int (nI on), .ref mk, .ref mn, .ref mr, .int (nI rc), .ref mh, .ref mw, .ref mi, .ref mv, .ref mb, .ref ms, .ref mu, .ref mp, .ref mc, .ref mx, .ref mg, .ref ma, .int (nI tx)], aI E mc 16 (rF y.1 by_ 16), aI E mu 17 (zrF (upd (fS (smX y by_ txt m)) 0 ((fS (smX y by_ txt m)) 0 - 251)) 1 i), aI E mp 35 ((fPA (smX y by_ txt m)).1), aI E ma 19 ((fPA (smX y by_ txt m)).2), aB E mg 16 y.2.2.2.2, aB E mx 864 txt, aB E rr bn by_] [(0, .ref h), (1, .ref rr), (2, .int (nI m)), (4, .int (nI (1 + i)))] 0 0 428 [] := by
                                intro zk
                                induction zk with
                                | zero =>
                                  intro i  hi
                                  obtain rfl : 16 = i := by omega
                                  refine j_iload hg 3 dM_sumOf_428 rfl ?_
                                  refine j_bipush hg (v := 17) dM_sumOf_430 (by decide) ?_
                                  refine j_nge_t hg (tgt := 449) (1 + 16) 17 rfl rfl (by omega) (by omega) (by omega) dM_sumOf_432 (by decide) ?_
                                  refine j_pick [0, 1, 2] (lv' := [(0, .ref h), (1, .ref rr), (2, .int (nI m))]) rfl ?_
                                  exact hfi
                                | succ zk ih =>
                                  intro i  hi
                                  refine j_iload hg 3 dM_sumOf_428 rfl ?_
                                  refine j_bipush hg (v := 17) dM_sumOf_430 (by decide) ?_
                                  refine j_nge_f hg (tgt := 449) (1 + i) 17 rfl rfl (by omega) (by omega) (by omega) dM_sumOf_432 (by decide) ?_
                                  refine j_aload_n hg 0 dM_sumOf_435 rfl rfl ?_
                                  refine j_get hg (C := RX4) (T := TX4) (N := 21) inX4 0 rfl rfl 14 (by decide) m342 rfl dM_sumOf_436 ?_
                                  refine j_iload hg 3 dM_sumOf_439 rfl ?_
                                  refine j_iconst hg (v := 0) dM_sumOf_441 (by decide) ?_
                                  refine j_iast hg (ws' := [ob h 4 [.ref mt, .int (nI tn), .ref mo, .int (nI on), .ref mk, .ref mn, .ref mr, .int (nI rc), .ref mh, .ref mw, .ref mi, .ref mv, .ref mb, .ref ms, .ref mu, .ref mp, .ref mc, .ref mx, .ref mg, .ref ma, .int (nI tx)], aI E mc 16 (rF y.1 by_ 16), aI E mu 17 (upd (zrF (upd (fS (smX y by_ txt m)) 0 ((fS (smX y by_ txt m)) 0 - 251)) 1 i) (1 + i) 0), aI E mp 35 ((fPA (smX y by_ txt m)).1), aI E ma 19 ((fPA (smX y by_ txt m)).2), aB E mg 16 y.2.2.2.2, aB E mx 864 txt, aB E rr bn by_]) 2 (1 + i) rfl rfl (by omega) (by omega) rfl dM_sumOf_442 ?_
                                  refine j_iinc hg (kq := 3) (v := nI (1 + (i + 1))) (lv' := [(4, .int (nI (1 + (i + 1)))), (0, .ref h), (1, .ref rr), (2, .int (nI m))]) dM_sumOf_443 rfl (Eq.trans (nI_add (1 + i) 1) (congrArg nI (by omega))) (by decide) rfl ?_
                                  refine j_goto hg (tgt := 428) dM_sumOf_446 (by decide) ?_
                                  refine j_pick [1, 2, 3, 0] (lv' := [(0, .ref h), (1, .ref rr), (2, .int (nI m)), (4, .int (nI (1 + (i + 1))))]) rfl ?_
                                  exact ih (i + 1) (by omega)
                              exact loop13 (16) 0 (by omega)
                          | succ zk ih =>
                            intro i  hi
                            refine j_iload hg 4 dM_sumOf_373 rfl ?_
                            refine j_bipush hg (v := 16) dM_sumOf_375 (by decide) ?_
                            refine j_nge_f hg (tgt := 409) (1 + i) 16 rfl rfl (by omega) (by omega) (by omega) dM_sumOf_377 (by decide) ?_
                            refine j_iload_n hg 3 dM_sumOf_380 rfl rfl ?_
                            refine j_if_eq hg (tgt := 401) dM_sumOf_381 (by decide) (fun hc => ?_) (fun hc => ?_)
                            · skip
                              refine j_iconst hg (v := 0) dM_sumOf_401 (by decide) ?_
                              refine j_topi (show (0 : Int32) = moN (fS (smX y by_ txt m)) (i + 1) from by show _ = ite _ _ _; rw [if_neg (fun q => q.1 hc)]) ?_
                              refine j_istore_n hg (lv' := [(3, .int (moN (fS (smX y by_ txt m)) (i + 1))), (0, .ref h), (1, .ref rr), (2, .int (nI m)), (4, .int (nI (1 + i)))]) dM_sumOf_402 rfl (by decide) rfl ?_
                              refine j_iinc hg (kq := 4) (v := nI (1 + (i + 1))) (lv' := [(4, .int (nI (1 + (i + 1)))), (3, .int (moN (fS (smX y by_ txt m)) (i + 1))), (0, .ref h), (1, .ref rr), (2, .int (nI m))]) dM_sumOf_403 rfl (Eq.trans (nI_add (1 + i) 1) (congrArg nI (by omega))) (by decide) rfl ?_
                              refine j_goto hg (tgt := 373) dM_sumOf_406 (by decide) ?_
                              refine j_pick [2, 3, 4, 1, 0] (lv' := [(0, .ref h), (1, .ref rr), (2, .int (nI m)), (3, .int (moN (fS (smX y by_ txt m)) (i + 1))), (4, .int (nI (1 + (i + 1))))]) rfl ?_
                              exact ih (i + 1) (by omega)
                            · skip
                              refine j_aload_n hg 0 dM_sumOf_384 rfl rfl ?_
                              refine j_get hg (C := RX4) (T := TX4) (N := 21) inX4 0 rfl rfl 14 (by decide) m342 rfl dM_sumOf_385 ?_
                              refine j_iload hg 4 dM_sumOf_388 rfl ?_
                              refine j_iald hg (v := (fS (smX y by_ txt m)) (1 + i)) 2 (1 + i) rfl rfl (by omega) (by omega) rfl dM_sumOf_390 ?_
                              refine j_sipush hg (v := 255) dM_sumOf_391 (by decide) ?_
                              refine j_icmp_ne hg (tgt := 401) dM_sumOf_394 (by decide) (fun hd => ?_) (fun hd => ?_)
                              · skip
                                refine j_iconst hg (v := 0) dM_sumOf_401 (by decide) ?_
                                refine j_topi (show (0 : Int32) = moN (fS (smX y by_ txt m)) (i + 1) from by show _ = ite _ _ _; rw [if_neg (fun q => hd q.2)]) ?_
                                refine j_istore_n hg (lv' := [(3, .int (moN (fS (smX y by_ txt m)) (i + 1))), (0, .ref h), (1, .ref rr), (2, .int (nI m)), (4, .int (nI (1 + i)))]) dM_sumOf_402 rfl (by decide) rfl ?_
                                refine j_iinc hg (kq := 4) (v := nI (1 + (i + 1))) (lv' := [(4, .int (nI (1 + (i + 1)))), (3, .int (moN (fS (smX y by_ txt m)) (i + 1))), (0, .ref h), (1, .ref rr), (2, .int (nI m))]) dM_sumOf_403 rfl (Eq.trans (nI_add (1 + i) 1) (congrArg nI (by omega))) (by decide) rfl ?_
                                refine j_goto hg (tgt := 373) dM_sumOf_406 (by decide) ?_
                                refine j_pick [2, 3, 4, 1, 0] (lv' := [(0, .ref h), (1, .ref rr), (2, .int (nI m)), (3, .int (moN (fS (smX y by_ txt m)) (i + 1))), (4, .int (nI (1 + (i + 1))))]) rfl ?_
                                exact ih (i + 1) (by omega)
                              · skip
                                refine j_iconst hg (v := 1) dM_sumOf_397 (by decide) ?_
                                refine j_goto hg (tgt := 402) dM_sumOf_398 (by decide) ?_
                                refine j_topi (show (1 : Int32) = moN (fS (smX y by_ txt m)) (i + 1) from by show _ = ite _ _ _; rw [if_pos ⟨hc, hd⟩]) ?_
                                refine j_istore_n hg (lv' := [(3, .int (moN (fS (smX y by_ txt m)) (i + 1))), (0, .ref h), (1, .ref rr), (2, .int (nI m)), (4, .int (nI (1 + i)))]) dM_sumOf_402 rfl (by decide) rfl ?_
                                refine j_iinc hg (kq := 4) (v := nI (1 + (i + 1))) (lv' := [(4, .int (nI (1 + (i + 1)))), (3, .int (moN (fS (smX y by_ txt m)) (i + 1))), (0, .ref h), (1, .ref rr), (2, .int (nI m))]) dM_sumOf_403 rfl (Eq.trans (nI_add (1 + i) 1) (congrArg nI (by omega))) (by decide) rfl ?_
                                refine j_goto hg (tgt := 373) dM_sumOf_406 (by decide) ?_
                                refine j_pick [2, 3, 4, 1, 0] (lv' := [(0, .ref h), (1, .ref rr), (2, .int (nI m)), (3, .int (moN (fS (smX y by_ txt m)) (i + 1))), (4, .int (nI (1 + (i + 1))))]) rfl ?_
                                exact ih (i + 1) (by omega)
                        exact loop11 (15) 0 (by omega)
                      refine j_aload_n hg 0 dM_sumOf_341 rfl rfl ?_
                      refine j_get hg (C := RX4) (T := TX4) (N := 21) inX4 0 rfl rfl 14 (by decide) m342 rfl dM_sumOf_342 ?_
                      refine j_bipush hg (v := 16) dM_sumOf_345 (by decide) ?_
                      refine j_iald hg (v := (fS (smX y by_ txt m)) 16) 2 16 rfl rfl (by omega) (by omega) rfl dM_sumOf_347 ?_
                      refine j_iconst hg (v := 3) dM_sumOf_348 (by decide) ?_
                      refine j_icmp_ne hg (tgt := 368) dM_sumOf_349 (by decide) (fun hc => ?_) (fun hc => ?_)
                      · skip
                        refine j_iconst hg (v := 0) dM_sumOf_368 (by decide) ?_
                        refine j_pick [0, 1, 2] (lv' := [(0, .ref h), (1, .ref rr), (2, .int (nI m))]) rfl ?_
                        exact hmo 0 (if_neg (fun q => hc q.1)).symm
                      · skip
                        refine j_aload_n hg 0 dM_sumOf_352 rfl rfl ?_
                        refine j_get hg (C := RX4) (T := TX4) (N := 21) inX4 0 rfl rfl 14 (by decide) m342 rfl dM_sumOf_353 ?_
                        refine j_iconst hg (v := 0) dM_sumOf_356 (by decide) ?_
                        refine j_iald hg (v := (fS (smX y by_ txt m)) 0) 2 0 rfl rfl (by omega) (by omega) rfl dM_sumOf_357 ?_
                        refine j_sipush hg (v := 251) dM_sumOf_358 (by decide) ?_
                        refine j_icmp_lt hg (tgt := 368) dM_sumOf_361 (by decide) (fun hd => ?_) (fun hd => ?_)
                        · skip
                          refine j_iconst hg (v := 0) dM_sumOf_368 (by decide) ?_
                          refine j_pick [0, 1, 2] (lv' := [(0, .ref h), (1, .ref rr), (2, .int (nI m))]) rfl ?_
                          exact hmo 0 (if_neg (fun q => Int32.not_lt.mpr q.2 hd)).symm
                        · skip
                          refine j_iconst hg (v := 1) dM_sumOf_364 (by decide) ?_
                          refine j_goto hg (tgt := 369) dM_sumOf_365 (by decide) ?_
                          refine j_pick [0, 1, 2] (lv' := [(0, .ref h), (1, .ref rr), (2, .int (nI m))]) rfl ?_
                          exact hmo 1 (if_pos ⟨hc, Int32.not_lt.mp hd⟩).symm
                    | succ zk ih =>
                      intro i  hi
                      refine j_iload_n hg 3 dM_sumOf_317 rfl rfl ?_
                      refine j_bipush hg (v := 17) dM_sumOf_318 (by decide) ?_
                      refine j_nge_f hg (tgt := 341) i 17 rfl rfl (by omega) (by omega) (by omega) dM_sumOf_320 (by decide) ?_
                      refine j_aload_n hg 0 dM_sumOf_323 rfl rfl ?_
                      refine j_get hg (C := RX4) (T := TX4) (N := 21) inX4 0 rfl rfl 14 (by decide) m342 rfl dM_sumOf_324 ?_
                      refine j_iload_n hg 3 dM_sumOf_327 rfl rfl ?_
                      refine j_aload_n hg 0 dM_sumOf_328 rfl rfl ?_
                      refine j_get hg (C := RX4) (T := TX4) (N := 21) inX4 0 rfl rfl 15 (by decide) m343 rfl dM_sumOf_329 ?_
                      refine j_iload_n hg 3 dM_sumOf_332 rfl rfl ?_
                      refine j_iald hg (v := ((fPA (smX y by_ txt m)).1) i) 3 i rfl rfl (by omega) (by omega) rfl dM_sumOf_333 ?_
                      refine j_iast hg (ws' := [ob h 4 [.ref mt, .int (nI tn), .ref mo, .int (nI on), .ref mk, .ref mn, .ref mr, .int (nI rc), .ref mh, .ref mw, .ref mi, .ref mv, .ref mb, .ref ms, .ref mu, .ref mp, .ref mc, .ref mx, .ref mg, .ref ma, .int (nI tx)], aI E mc 16 (rF y.1 by_ 16), aI E mu 17 (upd (cpS (fPA (smX y by_ txt m)).1 (smX y by_ txt m).1 i) i (((fPA (smX y by_ txt m)).1) i)), aI E mp 35 ((fPA (smX y by_ txt m)).1), aI E ma 19 ((fPA (smX y by_ txt m)).2), aB E mg 16 y.2.2.2.2, aB E mx 864 txt, aB E rr bn by_]) 2 i rfl rfl (by omega) (by omega) rfl dM_sumOf_334 ?_
                      refine j_iinc hg (kq := 3) (v := nI (i + 1)) (lv' := [(3, .int (nI (i + 1))), (0, .ref h), (1, .ref rr), (2, .int (nI m))]) dM_sumOf_335 rfl (nI_add i 1) (by decide) rfl ?_
                      refine j_goto hg (tgt := 317) dM_sumOf_338 (by decide) ?_
                      refine j_pick [1, 2, 3, 0] (lv' := [(0, .ref h), (1, .ref rr), (2, .int (nI m)), (3, .int (nI (i + 1)))]) rfl ?_
                      exact ih (i + 1) (by omega)
                  exact loop10 (17) 0 (by omega)
                | succ zk ih =>
                  intro i  hi
                  refine j_iload_n hg 3 dM_sumOf_277 rfl rfl ?_
                  refine j_bipush hg (v := 35) dM_sumOf_278 (by decide) ?_
                  refine j_nge_f hg (tgt := 311) i 35 rfl rfl (by omega) (by omega) (by omega) dM_sumOf_280 (by decide) ?_
                  refine j_aload_n hg 0 dM_sumOf_283 rfl rfl ?_
                  refine j_get hg (C := RX4) (T := TX4) (N := 21) inX4 0 rfl rfl 15 (by decide) m343 rfl dM_sumOf_284 ?_
                  refine j_iload_n hg 3 dM_sumOf_287 rfl rfl ?_
                  refine j_iload_n hg 3 dM_sumOf_288 rfl rfl ?_
                  refine j_bipush hg (v := 17) dM_sumOf_289 (by decide) ?_
                  refine j_nge hg (tgt := 303) i 17 rfl rfl (by omega) (by omega) dM_sumOf_291 (by decide) (fun hc => ?_) (fun hc => ?_)
                  · skip
                    refine j_iconst hg (v := 0) dM_sumOf_303 (by decide) ?_
                    refine j_topi (show (0 : Int32) = (if i < 17 then (smX y by_ txt m).1 i else 0) from (if_neg (by omega)).symm) ?_
                    refine j_iast hg (ws' := [ob h 4 [.ref mt, .int (nI tn), .ref mo, .int (nI on), .ref mk, .ref mn, .ref mr, .int (nI rc), .ref mh, .ref mw, .ref mi, .ref mv, .ref mb, .ref ms, .ref mu, .ref mp, .ref mc, .ref mx, .ref mg, .ref ma, .int (nI tx)], aI E mc 16 (rF y.1 by_ 16), aI E mu 17 ((smX y by_ txt m).1), aI E mp 35 (upd (pzF (smX y by_ txt m).2.1 (smX y by_ txt m).1 i) i (if i < 17 then (smX y by_ txt m).1 i else 0)), aI E ma 19 ((smX y by_ txt m).2.2), aB E mg 16 y.2.2.2.2, aB E mx 864 txt, aB E rr bn by_]) 3 i rfl rfl (by omega) (by omega) rfl dM_sumOf_304 ?_
                    refine j_iinc hg (kq := 3) (v := nI (i + 1)) (lv' := [(3, .int (nI (i + 1))), (0, .ref h), (1, .ref rr), (2, .int (nI m))]) dM_sumOf_305 rfl (nI_add i 1) (by decide) rfl ?_
                    refine j_goto hg (tgt := 277) dM_sumOf_308 (by decide) ?_
                    refine j_pick [1, 2, 3, 0] (lv' := [(0, .ref h), (1, .ref rr), (2, .int (nI m)), (3, .int (nI (i + 1)))]) rfl ?_
                    exact ih (i + 1) (by omega)
                  · skip
                    refine j_aload_n hg 0 dM_sumOf_294 rfl rfl ?_
                    refine j_get hg (C := RX4) (T := TX4) (N := 21) inX4 0 rfl rfl 14 (by decide) m342 rfl dM_sumOf_295 ?_
                    refine j_iload_n hg 3 dM_sumOf_298 rfl rfl ?_
                    refine j_iald hg (v := ((smX y by_ txt m).1) i) 2 i rfl rfl (by omega) (by omega) rfl dM_sumOf_299 ?_
                    refine j_goto hg (tgt := 304) dM_sumOf_300 (by decide) ?_
                    refine j_topi (show (smX y by_ txt m).1 i = (if i < 17 then (smX y by_ txt m).1 i else 0) from (if_pos (by omega)).symm) ?_
                    refine j_iast hg (ws' := [ob h 4 [.ref mt, .int (nI tn), .ref mo, .int (nI on), .ref mk, .ref mn, .ref mr, .int (nI rc), .ref mh, .ref mw, .ref mi, .ref mv, .ref mb, .ref ms, .ref mu, .ref mp, .ref mc, .ref mx, .ref mg, .ref ma, .int (nI tx)], aI E mc 16 (rF y.1 by_ 16), aI E mu 17 ((smX y by_ txt m).1), aI E mp 35 (upd (pzF (smX y by_ txt m).2.1 (smX y by_ txt m).1 i) i (if i < 17 then (smX y by_ txt m).1 i else 0)), aI E ma 19 ((smX y by_ txt m).2.2), aB E mg 16 y.2.2.2.2, aB E mx 864 txt, aB E rr bn by_]) 3 i rfl rfl (by omega) (by omega) rfl dM_sumOf_304 ?_
                    refine j_iinc hg (kq := 3) (v := nI (i + 1)) (lv' := [(3, .int (nI (i + 1))), (0, .ref h), (1, .ref rr), (2, .int (nI m))]) dM_sumOf_305 rfl (nI_add i 1) (by decide) rfl ?_
                    refine j_goto hg (tgt := 277) dM_sumOf_308 (by decide) ?_
                    refine j_pick [1, 2, 3, 0] (lv' := [(0, .ref h), (1, .ref rr), (2, .int (nI m)), (3, .int (nI (i + 1)))]) rfl ?_
                    exact ih (i + 1) (by omega)
              exact loop9 (35) 0 (by omega)
            | succ zk ih =>
              intro i  hi
              refine j_iload_n hg 3 dM_sumOf_78 rfl rfl ?_
              refine j_iload_n hg 2 dM_sumOf_79 rfl rfl ?_
              refine j_nge_f hg (tgt := 275) (16 * i) m rfl rfl (by omega) (by omega) (by omega) dM_sumOf_80 (by decide) ?_
              refine j_iload_n hg 2 dM_sumOf_83 rfl rfl ?_
              refine j_iload_n hg 3 dM_sumOf_84 rfl rfl ?_
              refine j_isub hg (v := nI (m - (16 * i))) dM_sumOf_85 (pk_sub (a := m) (b := 16 * i) (by omega)) ?_
              refine j_bipush hg (v := 16) dM_sumOf_86 (by decide) ?_
              refine j_nge hg (tgt := 97) (m - (16 * i)) 16 rfl rfl (by omega) (by omega) dM_sumOf_88 (by decide) (fun hc => ?_) (fun hc => ?_)
              · skip
                refine j_bipush hg (v := 16) dM_sumOf_97 (by decide) ?_
                refine j_topi (show (16 : Int32) = nI (min 16 (m - 16 * i)) from congrArg nI (show 16 = min 16 (m - 16 * i) by omega)) ?_
                refine j_istore hg (lv' := [(4, .int (nI (min 16 (m - 16 * i)))), (0, .ref h), (1, .ref rr), (2, .int (nI m)), (3, .int (nI (16 * i)))]) dM_sumOf_99 (by decide) rfl ?_
                refine j_iconst hg (v := 0) dM_sumOf_101 (by decide) ?_
                refine j_istore hg (lv' := [(5, .int 0), (4, .int (nI (min 16 (m - 16 * i)))), (0, .ref h), (1, .ref rr), (2, .int (nI m)), (3, .int (nI (16 * i)))]) dM_sumOf_102 (by decide) rfl ?_
                refine j_pick [2, 3, 4, 5, 1, 0] (lv' := [(0, .ref h), (1, .ref rr), (2, .int (nI m)), (3, .int (nI (16 * i))), (4, .int (nI (min 16 (m - 16 * i)))), (5, .int 0)]) rfl ?_
                have loop4 : ∀ (zk j : Nat), j + zk = min 16 (m - 16 * i) → J E 7 g [ob h 4 [.ref mt, .int (nI tn), .ref mo, .int (nI on), .ref mk, .ref mn, .ref mr, .int (nI rc), .ref mh, .ref mw, .ref mi, .ref mv, .ref mb, .ref ms, .ref mu, .ref mp, .ref mc, .ref mx, .ref mg, .ref ma, .int (nI tx)], aI E mc 16 (rF y.1 by_ 16), aI E mu 17 (adT (sbN (zr0 y.2.1 17, y.2.2.1, y.2.2.2.1) (rF y.1 by_ 16) txt m i).1 txt (16 * i) j), aI E mp 35 ((sbN (zr0 y.2.1 17, y.2.2.1, y.2.2.2.1) (rF y.1 by_ 16) txt m i).2.1), aI E ma 19 ((sbN (zr0 y.2.1 17, y.2.2.1, y.2.2.2.1) (rF y.1 by_ 16) txt m i).2.2), aB E mg 16 y.2.2.2.2, aB E mx 864 txt, aB E rr bn by_] [(0, .ref h), (1, .ref rr), (2, .int (nI m)), (3, .int (nI (16 * i))), (4, .int (nI (min 16 (m - 16 * i)))), (5, .int (nI j))] 0 0 104 [] := by
                  intro zk
                  induction zk with
                  | zero =>
                    intro j  hi
                    obtain rfl : min 16 (m - 16 * i) = j := by omega
                    refine j_iload hg 5 dM_sumOf_104 rfl ?_
                    refine j_iload hg 4 dM_sumOf_106 rfl ?_
                    refine j_nge_t hg (tgt := 140) (min 16 (m - 16 * i)) (min 16 (m - 16 * i)) rfl rfl (by omega) (by omega) (by omega) dM_sumOf_108 (by decide) ?_
                    refine j_aload_n hg 0 dM_sumOf_140 rfl rfl ?_
                    refine j_get hg (C := RX4) (T := TX4) (N := 21) inX4 0 rfl rfl 14 (by decide) m342 rfl dM_sumOf_141 ?_
                    refine j_iload hg 4 dM_sumOf_144 rfl ?_
                    refine j_dup2_11 hg dM_sumOf_146 rfl rfl ?_
                    refine j_iald hg (v := (adT (sbN (zr0 y.2.1 17, y.2.2.1, y.2.2.2.1) (rF y.1 by_ 16) txt m i).1 txt (16 * i) (min 16 (m - 16 * i))) (min 16 (m - 16 * i))) 2 (min 16 (m - 16 * i)) rfl rfl (by omega) (by omega) rfl dM_sumOf_147 ?_
                    refine j_iconst hg (v := 1) dM_sumOf_148 (by decide) ?_
                    refine j_iadd hg (v := ((adT (sbN (zr0 y.2.1 17, y.2.2.1, y.2.2.2.1) (rF y.1 by_ 16) txt m i).1 txt (16 * i) (min 16 (m - 16 * i))) (min 16 (m - 16 * i))) + 1) dM_sumOf_149 rfl ?_
                    refine j_iast hg (ws' := [ob h 4 [.ref mt, .int (nI tn), .ref mo, .int (nI on), .ref mk, .ref mn, .ref mr, .int (nI rc), .ref mh, .ref mw, .ref mi, .ref mv, .ref mb, .ref ms, .ref mu, .ref mp, .ref mc, .ref mx, .ref mg, .ref ma, .int (nI tx)], aI E mc 16 (rF y.1 by_ 16), aI E mu 17 (upd (adT (sbN (zr0 y.2.1 17, y.2.2.1, y.2.2.2.1) (rF y.1 by_ 16) txt m i).1 txt (16 * i) (min 16 (m - 16 * i))) (min 16 (m - 16 * i)) (((adT (sbN (zr0 y.2.1 17, y.2.2.1, y.2.2.2.1) (rF y.1 by_ 16) txt m i).1 txt (16 * i) (min 16 (m - 16 * i))) (min 16 (m - 16 * i))) + 1)), aI E mp 35 ((sbN (zr0 y.2.1 17, y.2.2.1, y.2.2.2.1) (rF y.1 by_ 16) txt m i).2.1), aI E ma 19 ((sbN (zr0 y.2.1 17, y.2.2.1, y.2.2.2.1) (rF y.1 by_ 16) txt m i).2.2), aB E mg 16 y.2.2.2.2, aB E mx 864 txt, aB E rr bn by_]) 2 (min 16 (m - 16 * i)) rfl rfl (by omega) (by omega) rfl dM_sumOf_150 ?_
                    refine j_iconst hg (v := 0) dM_sumOf_151 (by decide) ?_
                    refine j_istore hg (lv' := [(5, .int 0), (0, .ref h), (1, .ref rr), (2, .int (nI m)), (3, .int (nI (16 * i))), (4, .int (nI (min 16 (m - 16 * i))))]) dM_sumOf_152 (by decide) rfl ?_
                    show J E 7 g [ob h 4 [.ref mt, .int (nI tn), .ref mo, .int (nI on), .ref mk, .ref mn, .ref mr, .int (nI rc), .ref mh, .ref mw, .ref mi, .ref mv, .ref mb, .ref ms, .ref mu, .ref mp, .ref mc, .ref mx, .ref mg, .ref ma, .int (nI tx)], aI E mc 16 (rF y.1 by_ 16), aI E mu 17 (sAd (sbN (zr0 y.2.1 17, y.2.2.1, y.2.2.2.1) (rF y.1 by_ 16) txt m i).1 txt (16 * i) (min 16 (m - 16 * i))), aI E mp 35 ((sbN (zr0 y.2.1 17, y.2.2.1, y.2.2.2.1) (rF y.1 by_ 16) txt m i).2.1), aI E ma 19 ((sbN (zr0 y.2.1 17, y.2.2.1, y.2.2.2.1) (rF y.1 by_ 16) txt m i).2.2), aB E mg 16 y.2.2.2.2, aB E mx 864 txt, aB E rr bn by_] [(5, .int 0), (0, .ref h), (1, .ref rr), (2, .int (nI m)), (3, .int (nI (16 * i))), (4, .int (nI (min 16 (m - 16 * i))))] 0 0 154 []
                    refine j_pick [1, 2, 3, 4, 5, 0] (lv' := [(0, .ref h), (1, .ref rr), (2, .int (nI m)), (3, .int (nI (16 * i))), (4, .int (nI (min 16 (m - 16 * i)))), (5, .int 0)]) rfl ?_
                    have loop5 : ∀ (zk j : Nat), j + zk = 35 → J E 7 g [ob h 4 [.ref mt, .int (nI tn), .ref mo, .int (nI on), .ref mk, .ref mn, .ref mr, .int (nI rc), .ref mh, .ref mw, .ref mi, .ref mv, .ref mb, .ref ms, .ref mu, .ref mp, .ref mc, .ref mx, .ref mg, .ref ma, .int (nI tx)], aI E mc 16 (rF y.1 by_ 16), aI E mu 17 (sAd (sbN (zr0 y.2.1 17, y.2.2.1, y.2.2.2.1) (rF y.1 by_ 16) txt m i).1 txt (16 * i) (min 16 (m - 16 * i))), aI E mp 35 (zr0 (sbN (zr0 y.2.1 17, y.2.2.1, y.2.2.2.1) (rF y.1 by_ 16) txt m i).2.1 j), aI E ma 19 ((sbN (zr0 y.2.1 17, y.2.2.1, y.2.2.2.1) (rF y.1 by_ 16) txt m i).2.2), aB E mg 16 y.2.2.2.2, aB E mx 864 txt, aB E rr bn by_] [(0, .ref h), (1, .ref rr), (2, .int (nI m)), (3, .int (nI (16 * i))), (4, .int (nI (min 16 (m - 16 * i)))), (5, .int (nI j))] 0 0 154 [] := by
                      intro zk
                      induction zk with
                      | zero =>
                        intro j  hi
                        obtain rfl : 35 = j := by omega
                        refine j_iload hg 5 dM_sumOf_154 rfl ?_
                        refine j_bipush hg (v := 35) dM_sumOf_156 (by decide) ?_
                        refine j_nge_t hg (tgt := 175) 35 35 rfl rfl (by omega) (by omega) (by omega) dM_sumOf_158 (by decide) ?_
                        refine j_iconst hg (v := 0) dM_sumOf_175 (by decide) ?_
                        refine j_istore hg (lv' := [(5, .int 0), (0, .ref h), (1, .ref rr), (2, .int (nI m)), (3, .int (nI (16 * i))), (4, .int (nI (min 16 (m - 16 * i))))]) dM_sumOf_176 (by decide) rfl ?_
                        refine j_pick [1, 2, 3, 4, 5, 0] (lv' := [(0, .ref h), (1, .ref rr), (2, .int (nI m)), (3, .int (nI (16 * i))), (4, .int (nI (min 16 (m - 16 * i)))), (5, .int 0)]) rfl ?_
                        have loop6 : ∀ (zk j : Nat), j + zk = 17 → J E 7 g [ob h 4 [.ref mt, .int (nI tn), .ref mo, .int (nI on), .ref mk, .ref mn, .ref mr, .int (nI rc), .ref mh, .ref mw, .ref mi, .ref mv, .ref mb, .ref ms, .ref mu, .ref mp, .ref mc, .ref mx, .ref mg, .ref ma, .int (nI tx)], aI E mc 16 (rF y.1 by_ 16), aI E mu 17 (sAd (sbN (zr0 y.2.1 17, y.2.2.1, y.2.2.2.1) (rF y.1 by_ 16) txt m i).1 txt (16 * i) (min 16 (m - 16 * i))), aI E mp 35 (pm1 (zr0 (sbN (zr0 y.2.1 17, y.2.2.1, y.2.2.2.1) (rF y.1 by_ 16) txt m i).2.1 35) (sAd (sbN (zr0 y.2.1 17, y.2.2.1, y.2.2.2.1) (rF y.1 by_ 16) txt m i).1 txt (16 * i) (min 16 (m - 16 * i))) (rF y.1 by_ 16) j), aI E ma 19 ((sbN (zr0 y.2.1 17, y.2.2.1, y.2.2.2.1) (rF y.1 by_ 16) txt m i).2.2), aB E mg 16 y.2.2.2.2, aB E mx 864 txt, aB E rr bn by_] [(0, .ref h), (1, .ref rr), (2, .int (nI m)), (3, .int (nI (16 * i))), (4, .int (nI (min 16 (m - 16 * i)))), (5, .int (nI j))] 0 0 178 [] := by
                          intro zk
                          induction zk with
                          | zero =>
                            intro j  hi
                            obtain rfl : 17 = j := by omega
                            refine j_iload hg 5 dM_sumOf_178 rfl ?_
                            refine j_bipush hg (v := 17) dM_sumOf_180 (by decide) ?_
                            refine j_nge_t hg (tgt := 235) 17 17 rfl rfl (by omega) (by omega) (by omega) dM_sumOf_182 (by decide) ?_
                            refine j_aload_n hg 0 dM_sumOf_235 rfl rfl ?_
                            refine j_callV hg (n := 0) (y := yM_settle) (rm := rm_M_settle) (Ws := (cT yM_settle cM_settle 3 none)) (As := []) (rest := []) (wr := [aI E mc 16 (rF y.1 by_ 16), aI E mu 17 (sAd (sbN (zr0 y.2.1 17, y.2.2.1, y.2.2.2.1) (rF y.1 by_ 16) txt m i).1 txt (16 * i) (min 16 (m - 16 * i))), aB E mg 16 y.2.2.2.2, aB E mx 864 txt, aB E rr bn by_]) 0 rfl rfl (c_M_settle l E h mt mo mk mn mr mh mw mi mv mb ms mu mp mc mx mg ma tn on rc tx (pm1 (zr0 (sbN (zr0 y.2.1 17, y.2.2.1, y.2.2.2.1) (rF y.1 by_ 16) txt m i).2.1 35) (sAd (sbN (zr0 y.2.1 17, y.2.2.1, y.2.2.2.1) (rF y.1 by_ 16) txt m i).1 txt (16 * i) (min 16 (m - 16 * i))) (rF y.1 by_ 16) 17, (sbN (zr0 y.2.1 17, y.2.2.1, y.2.2.2.1) (rF y.1 by_ 16) txt m i).2.2)) (gdV m446 m448 ms22 m5 m449) rfl (by decide +kernel) ⟨by decide, by decide⟩ rfl rfl (Nat.le_of_ble_eq_true rfl) ⟨by decide, by decide⟩ [0, 3, 4] [1, 2, 5, 6, 7] rfl rfl (by decide) (by decide) (by decide) dM_sumOf_236 (fun _ _ => ?_)
                            show J E 7 g [aI E mc 16 (rF y.1 by_ 16), aI E mu 17 (sAd (sbN (zr0 y.2.1 17, y.2.2.1, y.2.2.2.1) (rF y.1 by_ 16) txt m i).1 txt (16 * i) (min 16 (m - 16 * i))), aB E mg 16 y.2.2.2.2, aB E mx 864 txt, aB E rr bn by_, ob h 4 [.ref mt, .int (nI tn), .ref mo, .int (nI on), .ref mk, .ref mn, .ref mr, .int (nI rc), .ref mh, .ref mw, .ref mi, .ref mv, .ref mb, .ref ms, .ref mu, .ref mp, .ref mc, .ref mx, .ref mg, .ref ma, .int (nI tx)], aI E mp 35 ((stl (pm1 (zr0 (sbN (zr0 y.2.1 17, y.2.2.1, y.2.2.2.1) (rF y.1 by_ 16) txt m i).2.1 35) (sAd (sbN (zr0 y.2.1 17, y.2.2.1, y.2.2.2.1) (rF y.1 by_ 16) txt m i).1 txt (16 * i) (min 16 (m - 16 * i))) (rF y.1 by_ 16) 17, (sbN (zr0 y.2.1 17, y.2.2.1, y.2.2.2.1) (rF y.1 by_ 16) txt m i).2.2)).1), aI E ma 19 ((stl (pm1 (zr0 (sbN (zr0 y.2.1 17, y.2.2.1, y.2.2.2.1) (rF y.1 by_ 16) txt m i).2.1 35) (sAd (sbN (zr0 y.2.1 17, y.2.2.1, y.2.2.2.1) (rF y.1 by_ 16) txt m i).1 txt (16 * i) (min 16 (m - 16 * i))) (rF y.1 by_ 16) 17, (sbN (zr0 y.2.1 17, y.2.2.1, y.2.2.2.1) (rF y.1 by_ 16) txt m i).2.2)).2)] [(0, .ref h), (1, .ref rr), (2, .int (nI m)), (3, .int (nI (16 * i))), (4, .int (nI (min 16 (m - 16 * i)))), (5, .int 17)] 0 0 239 []
                            refine j_iconst hg (v := 0) dM_sumOf_239 (by decide) ?_
                            refine j_istore hg (lv' := [(5, .int 0), (0, .ref h), (1, .ref rr), (2, .int (nI m)), (3, .int (nI (16 * i))), (4, .int (nI (min 16 (m - 16 * i))))]) dM_sumOf_240 (by decide) rfl ?_
                            refine j_sub [5, 0, 1, 6, 7, 2, 3, 4] (ws' := [ob h 4 [.ref mt, .int (nI tn), .ref mo, .int (nI on), .ref mk, .ref mn, .ref mr, .int (nI rc), .ref mh, .ref mw, .ref mi, .ref mv, .ref mb, .ref ms, .ref mu, .ref mp, .ref mc, .ref mx, .ref mg, .ref ma, .int (nI tx)], aI E mc 16 (rF y.1 by_ 16), aI E mu 17 (sAd (sbN (zr0 y.2.1 17, y.2.2.1, y.2.2.2.1) (rF y.1 by_ 16) txt m i).1 txt (16 * i) (min 16 (m - 16 * i))), aI E mp 35 ((stl (pm1 (zr0 (sbN (zr0 y.2.1 17, y.2.2.1, y.2.2.2.1) (rF y.1 by_ 16) txt m i).2.1 35) (sAd (sbN (zr0 y.2.1 17, y.2.2.1, y.2.2.2.1) (rF y.1 by_ 16) txt m i).1 txt (16 * i) (min 16 (m - 16 * i))) (rF y.1 by_ 16) 17, (sbN (zr0 y.2.1 17, y.2.2.1, y.2.2.2.1) (rF y.1 by_ 16) txt m i).2.2)).1), aI E ma 19 ((stl (pm1 (zr0 (sbN (zr0 y.2.1 17, y.2.2.1, y.2.2.2.1) (rF y.1 by_ 16) txt m i).2.1 35) (sAd (sbN (zr0 y.2.1 17, y.2.2.1, y.2.2.2.1) (rF y.1 by_ 16) txt m i).1 txt (16 * i) (min 16 (m - 16 * i))) (rF y.1 by_ 16) 17, (sbN (zr0 y.2.1 17, y.2.2.1, y.2.2.2.1) (rF y.1 by_ 16) txt m i).2.2)).2), aB E mg 16 y.2.2.2.2, aB E mx 864 txt, aB E rr bn by_]) rfl (by decide) ?_
                            show J E 7 g [ob h 4 [.ref mt, .int (nI tn), .ref mo, .int (nI on), .ref mk, .ref mn, .ref mr, .int (nI rc), .ref mh, .ref mw, .ref mi, .ref mv, .ref mb, .ref ms, .ref mu, .ref mp, .ref mc, .ref mx, .ref mg, .ref ma, .int (nI tx)], aI E mc 16 (rF y.1 by_ 16), aI E mu 17 (sAd (sbN (zr0 y.2.1 17, y.2.2.1, y.2.2.2.1) (rF y.1 by_ 16) txt m i).1 txt (16 * i) (min 16 (m - 16 * i))), aI E mp 35 ((sPA (sbN (zr0 y.2.1 17, y.2.2.1, y.2.2.2.1) (rF y.1 by_ 16) txt m i) (rF y.1 by_ 16) txt (16 * i) (min 16 (m - 16 * i))).1), aI E ma 19 ((sPA (sbN (zr0 y.2.1 17, y.2.2.1, y.2.2.2.1) (rF y.1 by_ 16) txt m i) (rF y.1 by_ 16) txt (16 * i) (min 16 (m - 16 * i))).2), aB E mg 16 y.2.2.2.2, aB E mx 864 txt, aB E rr bn by_] [(5, .int 0), (0, .ref h), (1, .ref rr), (2, .int (nI m)), (3, .int (nI (16 * i))), (4, .int (nI (min 16 (m - 16 * i))))] 0 0 242 []
                            refine j_pick [1, 2, 3, 4, 5, 0] (lv' := [(0, .ref h), (1, .ref rr), (2, .int (nI m)), (3, .int (nI (16 * i))), (4, .int (nI (min 16 (m - 16 * i)))), (5, .int 0)]) rfl ?_
                            have loop8 : ∀ (zk j : Nat), j + zk = 17 → J E 7 g [ob h 4 [.ref mt, .int (nI tn), .ref mo, .int (nI on), .ref mk, .ref mn, .ref mr, .int (nI rc), .ref mh, .ref mw, .ref mi, .ref mv, .ref mb, .ref ms, .ref mu, .ref mp, .ref mc, .ref mx, .ref mg, .ref ma, .int (nI tx)], aI E mc 16 (rF y.1 by_ 16), aI E mu 17 (cpS (sPA (sbN (zr0 y.2.1 17, y.2.2.1, y.2.2.2.1) (rF y.1 by_ 16) txt m i) (rF y.1 by_ 16) txt (16 * i) (min 16 (m - 16 * i))).1 (sAd (sbN (zr0 y.2.1 17, y.2.2.1, y.2.2.2.1) (rF y.1 by_ 16) txt m i).1 txt (16 * i) (min 16 (m - 16 * i))) j), aI E mp 35 ((sPA (sbN (zr0 y.2.1 17, y.2.2.1, y.2.2.2.1) (rF y.1 by_ 16) txt m i) (rF y.1 by_ 16) txt (16 * i) (min 16 (m - 16 * i))).1), aI E ma 19 ((sPA (sbN (zr0 y.2.1 17, y.2.2.1, y.2.2.2.1) (rF y.1 by_ 16) txt m i) (rF y.1 by_ 16) txt (16 * i) (min 16 (m - 16 * i))).2), aB E mg 16 y.2.2.2.2, aB E mx 864 txt, aB E rr bn by_] [(0, .ref h), (1, .ref rr), (2, .int (nI m)), (3, .int (nI (16 * i))), (4, .int (nI (min 16 (m - 16 * i)))), (5, .int (nI j))] 0 0 242 [] := by
                              intro zk
                              induction zk with
                              | zero =>
                                intro j  hi
                                obtain rfl : 17 = j := by omega
                                refine j_iload hg 5 dM_sumOf_242 rfl ?_
                                refine j_bipush hg (v := 17) dM_sumOf_244 (by decide) ?_
                                refine j_nge_t hg (tgt := 269) 17 17 rfl rfl (by omega) (by omega) (by omega) dM_sumOf_246 (by decide) ?_
                                refine j_iinc hg (kq := 3) (v := nI (16 * (i + 1))) (lv' := [(3, .int (nI (16 * (i + 1)))), (0, .ref h), (1, .ref rr), (2, .int (nI m)), (4, .int (nI (min 16 (m - 16 * i)))), (5, .int 17)]) dM_sumOf_269 rfl (Eq.trans (nI_add (16 * i) 16) (congrArg nI (by omega))) (by decide) rfl ?_
                                refine j_goto hg (tgt := 78) dM_sumOf_272 (by decide) ?_
                                refine j_pick [1, 2, 3, 0] (lv' := [(0, .ref h), (1, .ref rr), (2, .int (nI m)), (3, .int (nI (16 * (i + 1))))]) rfl ?_
                                have ih1 := ih (i + 1) (by omega)
                                have es : sbN (zr0 y.2.1 17, y.2.2.1, y.2.2.2.1) (rF y.1 by_ 16) txt m (i + 1) = sb0 (sbN (zr0 y.2.1 17, y.2.2.1, y.2.2.2.1) (rF y.1 by_ 16) txt m i) (rF y.1 by_ 16) txt (16 * i) (min 16 (m - 16 * i)) := by show sbF _ _ _ _ _ = _; rw [sbF_eq]
                                rw [es] at ih1
                                exact ih1
                              | succ zk ih =>
                                intro j  hi
                                refine j_iload hg 5 dM_sumOf_242 rfl ?_
                                refine j_bipush hg (v := 17) dM_sumOf_244 (by decide) ?_
                                refine j_nge_f hg (tgt := 269) j 17 rfl rfl (by omega) (by omega) (by omega) dM_sumOf_246 (by decide) ?_
                                refine j_aload_n hg 0 dM_sumOf_249 rfl rfl ?_
                                refine j_get hg (C := RX4) (T := TX4) (N := 21) inX4 0 rfl rfl 14 (by decide) m342 rfl dM_sumOf_250 ?_
                                refine j_iload hg 5 dM_sumOf_253 rfl ?_
                                refine j_aload_n hg 0 dM_sumOf_255 rfl rfl ?_
                                refine j_get hg (C := RX4) (T := TX4) (N := 21) inX4 0 rfl rfl 15 (by decide) m343 rfl dM_sumOf_256 ?_
                                refine j_iload hg 5 dM_sumOf_259 rfl ?_
                                refine j_iald hg (v := ((sPA (sbN (zr0 y.2.1 17, y.2.2.1, y.2.2.2.1) (rF y.1 by_ 16) txt m i) (rF y.1 by_ 16) txt (16 * i) (min 16 (m - 16 * i))).1) j) 3 j rfl rfl (by omega) (by omega) rfl dM_sumOf_261 ?_
                                refine j_iast hg (ws' := [ob h 4 [.ref mt, .int (nI tn), .ref mo, .int (nI on), .ref mk, .ref mn, .ref mr, .int (nI rc), .ref mh, .ref mw, .ref mi, .ref mv, .ref mb, .ref ms, .ref mu, .ref mp, .ref mc, .ref mx, .ref mg, .ref ma, .int (nI tx)], aI E mc 16 (rF y.1 by_ 16), aI E mu 17 (upd (cpS (sPA (sbN (zr0 y.2.1 17, y.2.2.1, y.2.2.2.1) (rF y.1 by_ 16) txt m i) (rF y.1 by_ 16) txt (16 * i) (min 16 (m - 16 * i))).1 (sAd (sbN (zr0 y.2.1 17, y.2.2.1, y.2.2.2.1) (rF y.1 by_ 16) txt m i).1 txt (16 * i) (min 16 (m - 16 * i))) j) j (((sPA (sbN (zr0 y.2.1 17, y.2.2.1, y.2.2.2.1) (rF y.1 by_ 16) txt m i) (rF y.1 by_ 16) txt (16 * i) (min 16 (m - 16 * i))).1) j)), aI E mp 35 ((sPA (sbN (zr0 y.2.1 17, y.2.2.1, y.2.2.2.1) (rF y.1 by_ 16) txt m i) (rF y.1 by_ 16) txt (16 * i) (min 16 (m - 16 * i))).1), aI E ma 19 ((sPA (sbN (zr0 y.2.1 17, y.2.2.1, y.2.2.2.1) (rF y.1 by_ 16) txt m i) (rF y.1 by_ 16) txt (16 * i) (min 16 (m - 16 * i))).2), aB E mg 16 y.2.2.2.2, aB E mx 864 txt, aB E rr bn by_]) 2 j rfl rfl (by omega) (by omega) rfl dM_sumOf_262 ?_
                                refine j_iinc hg (kq := 5) (v := nI (j + 1)) (lv' := [(5, .int (nI (j + 1))), (0, .ref h), (1, .ref rr), (2, .int (nI m)), (3, .int (nI (16 * i))), (4, .int (nI (min 16 (m - 16 * i))))]) dM_sumOf_263 rfl (nI_add j 1) (by decide) rfl ?_
                                refine j_goto hg (tgt := 242) dM_sumOf_266 (by decide) ?_
                                refine j_pick [1, 2, 3, 4, 5, 0] (lv' := [(0, .ref h), (1, .ref rr), (2, .int (nI m)), (3, .int (nI (16 * i))), (4, .int (nI (min 16 (m - 16 * i)))), (5, .int (nI (j + 1)))]) rfl ?_
                                exact ih (j + 1) (by omega)
                            exact loop8 (17) 0 (by omega)
                          | succ zk ih =>
                            intro j  hi
                            refine j_iload hg 5 dM_sumOf_178 rfl ?_
                            refine j_bipush hg (v := 17) dM_sumOf_180 (by decide) ?_
                            refine j_nge_f hg (tgt := 235) j 17 rfl rfl (by omega) (by omega) (by omega) dM_sumOf_182 (by decide) ?_
                            refine j_iconst hg (v := 0) dM_sumOf_185 (by decide) ?_
                            refine j_istore hg (lv' := [(6, .int 0), (0, .ref h), (1, .ref rr), (2, .int (nI m)), (3, .int (nI (16 * i))), (4, .int (nI (min 16 (m - 16 * i)))), (5, .int (nI j))]) dM_sumOf_186 (by decide) rfl ?_
                            refine j_pick [1, 2, 3, 4, 5, 6, 0] (lv' := [(0, .ref h), (1, .ref rr), (2, .int (nI m)), (3, .int (nI (16 * i))), (4, .int (nI (min 16 (m - 16 * i)))), (5, .int (nI j)), (6, .int 0)]) rfl ?_
                            have loop7 : ∀ (zk t : Nat), t + zk = 16 → J E 7 g [ob h 4 [.ref mt, .int (nI tn), .ref mo, .int (nI on), .ref mk, .ref mn, .ref mr, .int (nI rc), .ref mh, .ref mw, .ref mi, .ref mv, .ref mb, .ref ms, .ref mu, .ref mp, .ref mc, .ref mx, .ref mg, .ref ma, .int (nI tx)], aI E mc 16 (rF y.1 by_ 16), aI E mu 17 (sAd (sbN (zr0 y.2.1 17, y.2.2.1, y.2.2.2.1) (rF y.1 by_ 16) txt m i).1 txt (16 * i) (min 16 (m - 16 * i))), aI E mp 35 (pm2 (pm1 (zr0 (sbN (zr0 y.2.1 17, y.2.2.1, y.2.2.2.1) (rF y.1 by_ 16) txt m i).2.1 35) (sAd (sbN (zr0 y.2.1 17, y.2.2.1, y.2.2.2.1) (rF y.1 by_ 16) txt m i).1 txt (16 * i) (min 16 (m - 16 * i))) (rF y.1 by_ 16) j) (sAd (sbN (zr0 y.2.1 17, y.2.2.1, y.2.2.2.1) (rF y.1 by_ 16) txt m i).1 txt (16 * i) (min 16 (m - 16 * i))) (rF y.1 by_ 16) j t), aI E ma 19 ((sbN (zr0 y.2.1 17, y.2.2.1, y.2.2.2.1) (rF y.1 by_ 16) txt m i).2.2), aB E mg 16 y.2.2.2.2, aB E mx 864 txt, aB E rr bn by_] [(0, .ref h), (1, .ref rr), (2, .int (nI m)), (3, .int (nI (16 * i))), (4, .int (nI (min 16 (m - 16 * i)))), (5, .int (nI j)), (6, .int (nI t))] 0 0 188 [] := by
                              intro zk
                              induction zk with
                              | zero =>
                                intro t  hi
                                obtain rfl : 16 = t := by omega
                                refine j_iload hg 6 dM_sumOf_188 rfl ?_
                                refine j_bipush hg (v := 16) dM_sumOf_190 (by decide) ?_
                                refine j_nge_t hg (tgt := 229) 16 16 rfl rfl (by omega) (by omega) (by omega) dM_sumOf_192 (by decide) ?_
                                refine j_iinc hg (kq := 5) (v := nI (j + 1)) (lv' := [(5, .int (nI (j + 1))), (0, .ref h), (1, .ref rr), (2, .int (nI m)), (3, .int (nI (16 * i))), (4, .int (nI (min 16 (m - 16 * i)))), (6, .int 16)]) dM_sumOf_229 rfl (nI_add j 1) (by decide) rfl ?_
                                refine j_goto hg (tgt := 178) dM_sumOf_232 (by decide) ?_
                                refine j_pick [1, 2, 3, 4, 5, 0] (lv' := [(0, .ref h), (1, .ref rr), (2, .int (nI m)), (3, .int (nI (16 * i))), (4, .int (nI (min 16 (m - 16 * i)))), (5, .int (nI (j + 1)))]) rfl ?_
                                exact ih (j + 1) (by omega)
                              | succ zk ih =>
                                intro t  hi
                                refine j_iload hg 6 dM_sumOf_188 rfl ?_
                                refine j_bipush hg (v := 16) dM_sumOf_190 (by decide) ?_
                                refine j_nge_f hg (tgt := 229) t 16 rfl rfl (by omega) (by omega) (by omega) dM_sumOf_192 (by decide) ?_
                                refine j_aload_n hg 0 dM_sumOf_195 rfl rfl ?_
                                refine j_get hg (C := RX4) (T := TX4) (N := 21) inX4 0 rfl rfl 15 (by decide) m343 rfl dM_sumOf_196 ?_
                                refine j_iload hg 5 dM_sumOf_199 rfl ?_
                                refine j_iload hg 6 dM_sumOf_201 rfl ?_
                                refine j_iadd hg (v := nI (j + t)) dM_sumOf_203 (nI_add j t) ?_
                                refine j_dup2_11 hg dM_sumOf_204 rfl rfl ?_
                                refine j_iald hg (v := (pm2 (pm1 (zr0 (sbN (zr0 y.2.1 17, y.2.2.1, y.2.2.2.1) (rF y.1 by_ 16) txt m i).2.1 35) (sAd (sbN (zr0 y.2.1 17, y.2.2.1, y.2.2.2.1) (rF y.1 by_ 16) txt m i).1 txt (16 * i) (min 16 (m - 16 * i))) (rF y.1 by_ 16) j) (sAd (sbN (zr0 y.2.1 17, y.2.2.1, y.2.2.2.1) (rF y.1 by_ 16) txt m i).1 txt (16 * i) (min 16 (m - 16 * i))) (rF y.1 by_ 16) j t) (j + t)) 3 (j + t) rfl rfl (by omega) (by omega) rfl dM_sumOf_205 ?_
                                refine j_aload_n hg 0 dM_sumOf_206 rfl rfl ?_
                                refine j_get hg (C := RX4) (T := TX4) (N := 21) inX4 0 rfl rfl 14 (by decide) m342 rfl dM_sumOf_207 ?_
                                refine j_iload hg 5 dM_sumOf_210 rfl ?_
                                refine j_iald hg (v := (sAd (sbN (zr0 y.2.1 17, y.2.2.1, y.2.2.2.1) (rF y.1 by_ 16) txt m i).1 txt (16 * i) (min 16 (m - 16 * i))) j) 2 j rfl rfl (by omega) (by omega) rfl dM_sumOf_212 ?_
                                refine j_aload_n hg 0 dM_sumOf_213 rfl rfl ?_
                                refine j_get hg (C := RX4) (T := TX4) (N := 21) inX4 0 rfl rfl 16 (by decide) m344 rfl dM_sumOf_214 ?_
                                refine j_iload hg 6 dM_sumOf_217 rfl ?_
                                refine j_iald hg (v := (rF y.1 by_ 16) t) 1 t rfl rfl (by omega) (by omega) rfl dM_sumOf_219 ?_
                                refine j_imul hg (v := ((sAd (sbN (zr0 y.2.1 17, y.2.2.1, y.2.2.2.1) (rF y.1 by_ 16) txt m i).1 txt (16 * i) (min 16 (m - 16 * i))) j) * ((rF y.1 by_ 16) t)) dM_sumOf_220 rfl ?_
                                refine j_iadd hg (v := ((pm2 (pm1 (zr0 (sbN (zr0 y.2.1 17, y.2.2.1, y.2.2.2.1) (rF y.1 by_ 16) txt m i).2.1 35) (sAd (sbN (zr0 y.2.1 17, y.2.2.1, y.2.2.2.1) (rF y.1 by_ 16) txt m i).1 txt (16 * i) (min 16 (m - 16 * i))) (rF y.1 by_ 16) j) (sAd (sbN (zr0 y.2.1 17, y.2.2.1, y.2.2.2.1) (rF y.1 by_ 16) txt m i).1 txt (16 * i) (min 16 (m - 16 * i))) (rF y.1 by_ 16) j t) (j + t)) + (((sAd (sbN (zr0 y.2.1 17, y.2.2.1, y.2.2.2.1) (rF y.1 by_ 16) txt m i).1 txt (16 * i) (min 16 (m - 16 * i))) j) * ((rF y.1 by_ 16) t))) dM_sumOf_221 rfl ?_
                                refine j_iast hg (ws' := [ob h 4 [.ref mt, .int (nI tn), .ref mo, .int (nI on), .ref mk, .ref mn, .ref mr, .int (nI rc), .ref mh, .ref mw, .ref mi, .ref mv, .ref mb, .ref ms, .ref mu, .ref mp, .ref mc, .ref mx, .ref mg, .ref ma, .int (nI tx)], aI E mc 16 (rF y.1 by_ 16), aI E mu 17 (sAd (sbN (zr0 y.2.1 17, y.2.2.1, y.2.2.2.1) (rF y.1 by_ 16) txt m i).1 txt (16 * i) (min 16 (m - 16 * i))), aI E mp 35 (upd (pm2 (pm1 (zr0 (sbN (zr0 y.2.1 17, y.2.2.1, y.2.2.2.1) (rF y.1 by_ 16) txt m i).2.1 35) (sAd (sbN (zr0 y.2.1 17, y.2.2.1, y.2.2.2.1) (rF y.1 by_ 16) txt m i).1 txt (16 * i) (min 16 (m - 16 * i))) (rF y.1 by_ 16) j) (sAd (sbN (zr0 y.2.1 17, y.2.2.1, y.2.2.2.1) (rF y.1 by_ 16) txt m i).1 txt (16 * i) (min 16 (m - 16 * i))) (rF y.1 by_ 16) j t) (j + t) (((pm2 (pm1 (zr0 (sbN (zr0 y.2.1 17, y.2.2.1, y.2.2.2.1) (rF y.1 by_ 16) txt m i).2.1 35) (sAd (sbN (zr0 y.2.1 17, y.2.2.1, y.2.2.2.1) (rF y.1 by_ 16) txt m i).1 txt (16 * i) (min 16 (m - 16 * i))) (rF y.1 by_ 16) j) (sAd (sbN (zr0 y.2.1 17, y.2.2.1, y.2.2.2.1) (rF y.1 by_ 16) txt m i).1 txt (16 * i) (min 16 (m - 16 * i))) (rF y.1 by_ 16) j t) (j + t)) + (((sAd (sbN (zr0 y.2.1 17, y.2.2.1, y.2.2.2.1) (rF y.1 by_ 16) txt m i).1 txt (16 * i) (min 16 (m - 16 * i))) j) * ((rF y.1 by_ 16) t)))), aI E ma 19 ((sbN (zr0 y.2.1 17, y.2.2.1, y.2.2.2.1) (rF y.1 by_ 16) txt m i).2.2), aB E mg 16 y.2.2.2.2, aB E mx 864 txt, aB E rr bn by_]) 3 (j + t) rfl rfl (by omega) (by omega) rfl dM_sumOf_222 ?_
                                refine j_iinc hg (kq := 6) (v := nI (t + 1)) (lv' := [(6, .int (nI (t + 1))), (0, .ref h), (1, .ref rr), (2, .int (nI m)), (3, .int (nI (16 * i))), (4, .int (nI (min 16 (m - 16 * i)))), (5, .int (nI j))]) dM_sumOf_223 rfl (nI_add t 1) (by decide) rfl ?_
                                refine j_goto hg (tgt := 188) dM_sumOf_226 (by decide) ?_
                                refine j_pick [1, 2, 3, 4, 5, 6, 0] (lv' := [(0, .ref h), (1, .ref rr), (2, .int (nI m)), (3, .int (nI (16 * i))), (4, .int (nI (min 16 (m - 16 * i)))), (5, .int (nI j)), (6, .int (nI (t + 1)))]) rfl ?_
                                exact ih (t + 1) (by omega)
                            exact loop7 (16) 0 (by omega)
                        exact loop6 (17) 0 (by omega)
                      | succ zk ih =>
                        intro j  hi
                        refine j_iload hg 5 dM_sumOf_154 rfl ?_
                        refine j_bipush hg (v := 35) dM_sumOf_156 (by decide) ?_
                        refine j_nge_f hg (tgt := 175) j 35 rfl rfl (by omega) (by omega) (by omega) dM_sumOf_158 (by decide) ?_
                        refine j_aload_n hg 0 dM_sumOf_161 rfl rfl ?_
                        refine j_get hg (C := RX4) (T := TX4) (N := 21) inX4 0 rfl rfl 15 (by decide) m343 rfl dM_sumOf_162 ?_
                        refine j_iload hg 5 dM_sumOf_165 rfl ?_
                        refine j_iconst hg (v := 0) dM_sumOf_167 (by decide) ?_
                        refine j_iast hg (ws' := [ob h 4 [.ref mt, .int (nI tn), .ref mo, .int (nI on), .ref mk, .ref mn, .ref mr, .int (nI rc), .ref mh, .ref mw, .ref mi, .ref mv, .ref mb, .ref ms, .ref mu, .ref mp, .ref mc, .ref mx, .ref mg, .ref ma, .int (nI tx)], aI E mc 16 (rF y.1 by_ 16), aI E mu 17 (sAd (sbN (zr0 y.2.1 17, y.2.2.1, y.2.2.2.1) (rF y.1 by_ 16) txt m i).1 txt (16 * i) (min 16 (m - 16 * i))), aI E mp 35 (upd (zr0 (sbN (zr0 y.2.1 17, y.2.2.1, y.2.2.2.1) (rF y.1 by_ 16) txt m i).2.1 j) j 0), aI E ma 19 ((sbN (zr0 y.2.1 17, y.2.2.1, y.2.2.2.1) (rF y.1 by_ 16) txt m i).2.2), aB E mg 16 y.2.2.2.2, aB E mx 864 txt, aB E rr bn by_]) 3 j rfl rfl (by omega) (by omega) rfl dM_sumOf_168 ?_
                        refine j_iinc hg (kq := 5) (v := nI (j + 1)) (lv' := [(5, .int (nI (j + 1))), (0, .ref h), (1, .ref rr), (2, .int (nI m)), (3, .int (nI (16 * i))), (4, .int (nI (min 16 (m - 16 * i))))]) dM_sumOf_169 rfl (Eq.trans (nI_add j 1) (congrArg nI (by omega))) (by decide) rfl ?_
                        refine j_goto hg (tgt := 154) dM_sumOf_172 (by decide) ?_
                        refine j_pick [1, 2, 3, 4, 5, 0] (lv' := [(0, .ref h), (1, .ref rr), (2, .int (nI m)), (3, .int (nI (16 * i))), (4, .int (nI (min 16 (m - 16 * i)))), (5, .int (nI (j + 1)))]) rfl ?_
                        exact ih (j + 1) (by omega)
                    exact loop5 (35) 0 (by omega)
                  | succ zk ih =>
                    intro j  hi
                    refine j_iload hg 5 dM_sumOf_104 rfl ?_
                    refine j_iload hg 4 dM_sumOf_106 rfl ?_
                    refine j_nge_f hg (tgt := 140) j (min 16 (m - 16 * i)) rfl rfl (by omega) (by omega) (by omega) dM_sumOf_108 (by decide) ?_
                    refine j_aload_n hg 0 dM_sumOf_111 rfl rfl ?_
                    refine j_get hg (C := RX4) (T := TX4) (N := 21) inX4 0 rfl rfl 14 (by decide) m342 rfl dM_sumOf_112 ?_
                    refine j_iload hg 5 dM_sumOf_115 rfl ?_
                    refine j_dup2_11 hg dM_sumOf_117 rfl rfl ?_
                    refine j_iald hg (v := (adT (sbN (zr0 y.2.1 17, y.2.2.1, y.2.2.2.1) (rF y.1 by_ 16) txt m i).1 txt (16 * i) j) j) 2 j rfl rfl (by omega) (by omega) rfl dM_sumOf_118 ?_
                    refine j_aload_n hg 0 dM_sumOf_119 rfl rfl ?_
                    refine j_get hg (C := RX4) (T := TX4) (N := 21) inX4 0 rfl rfl 17 (by decide) m345 rfl dM_sumOf_120 ?_
                    refine j_iload_n hg 3 dM_sumOf_123 rfl rfl ?_
                    refine j_iload hg 5 dM_sumOf_124 rfl ?_
                    refine j_iadd hg (v := nI (16 * i + j)) dM_sumOf_126 (nI_add (16 * i) j) ?_
                    refine j_bald hg (v := txt (16 * i + j)) 6 (16 * i + j) rfl rfl (by omega) (by omega) rfl dM_sumOf_127 ?_
                    refine j_sipush hg (v := 255) dM_sumOf_128 (by decide) ?_
                    refine j_iand hg (v := (txt (16 * i + j)) &&& 255) dM_sumOf_131 rfl ?_
                    refine j_iadd hg (v := ((adT (sbN (zr0 y.2.1 17, y.2.2.1, y.2.2.2.1) (rF y.1 by_ 16) txt m i).1 txt (16 * i) j) j) + ((txt (16 * i + j)) &&& 255)) dM_sumOf_132 rfl ?_
                    refine j_iast hg (ws' := [ob h 4 [.ref mt, .int (nI tn), .ref mo, .int (nI on), .ref mk, .ref mn, .ref mr, .int (nI rc), .ref mh, .ref mw, .ref mi, .ref mv, .ref mb, .ref ms, .ref mu, .ref mp, .ref mc, .ref mx, .ref mg, .ref ma, .int (nI tx)], aI E mc 16 (rF y.1 by_ 16), aI E mu 17 (upd (adT (sbN (zr0 y.2.1 17, y.2.2.1, y.2.2.2.1) (rF y.1 by_ 16) txt m i).1 txt (16 * i) j) j (((adT (sbN (zr0 y.2.1 17, y.2.2.1, y.2.2.2.1) (rF y.1 by_ 16) txt m i).1 txt (16 * i) j) j) + ((txt (16 * i + j)) &&& 255))), aI E mp 35 ((sbN (zr0 y.2.1 17, y.2.2.1, y.2.2.2.1) (rF y.1 by_ 16) txt m i).2.1), aI E ma 19 ((sbN (zr0 y.2.1 17, y.2.2.1, y.2.2.2.1) (rF y.1 by_ 16) txt m i).2.2), aB E mg 16 y.2.2.2.2, aB E mx 864 txt, aB E rr bn by_]) 2 j rfl rfl (by omega) (by omega) rfl dM_sumOf_133 ?_
                    refine j_iinc hg (kq := 5) (v := nI (j + 1)) (lv' := [(5, .int (nI (j + 1))), (0, .ref h), (1, .ref rr), (2, .int (nI m)), (3, .int (nI (16 * i))), (4, .int (nI (min 16 (m - 16 * i))))]) dM_sumOf_134 rfl (nI_add j 1) (by decide) rfl ?_
                    refine j_goto hg (tgt := 104) dM_sumOf_137 (by decide) ?_
                    refine j_pick [1, 2, 3, 4, 5, 0] (lv' := [(0, .ref h), (1, .ref rr), (2, .int (nI m)), (3, .int (nI (16 * i))), (4, .int (nI (min 16 (m - 16 * i)))), (5, .int (nI (j + 1)))]) rfl ?_
                    exact ih (j + 1) (by omega)
                exact loop4 (min 16 (m - 16 * i)) 0 (by omega)
              · skip
                refine j_iload_n hg 2 dM_sumOf_91 rfl rfl ?_
                refine j_iload_n hg 3 dM_sumOf_92 rfl rfl ?_
                refine j_isub hg (v := nI (m - (16 * i))) dM_sumOf_93 (pk_sub (a := m) (b := 16 * i) (by omega)) ?_
                refine j_goto hg (tgt := 99) dM_sumOf_94 (by decide) ?_
                refine j_topi (show nI (m - 16 * i) = nI (min 16 (m - 16 * i)) from congrArg nI (show m - 16 * i = min 16 (m - 16 * i) by omega)) ?_
                refine j_istore hg (lv' := [(4, .int (nI (min 16 (m - 16 * i)))), (0, .ref h), (1, .ref rr), (2, .int (nI m)), (3, .int (nI (16 * i)))]) dM_sumOf_99 (by decide) rfl ?_
                refine j_iconst hg (v := 0) dM_sumOf_101 (by decide) ?_
                refine j_istore hg (lv' := [(5, .int 0), (4, .int (nI (min 16 (m - 16 * i)))), (0, .ref h), (1, .ref rr), (2, .int (nI m)), (3, .int (nI (16 * i)))]) dM_sumOf_102 (by decide) rfl ?_
                refine j_pick [2, 3, 4, 5, 1, 0] (lv' := [(0, .ref h), (1, .ref rr), (2, .int (nI m)), (3, .int (nI (16 * i))), (4, .int (nI (min 16 (m - 16 * i)))), (5, .int 0)]) rfl ?_
                have loop4 : ∀ (zk j : Nat), j + zk = min 16 (m - 16 * i) → J E 7 g [ob h 4 [.ref mt, .int (nI tn), .ref mo, .int (nI on), .ref mk, .ref mn, .ref mr, .int (nI rc), .ref mh, .ref mw, .ref mi, .ref mv, .ref mb, .ref ms, .ref mu, .ref mp, .ref mc, .ref mx, .ref mg, .ref ma, .int (nI tx)], aI E mc 16 (rF y.1 by_ 16), aI E mu 17 (adT (sbN (zr0 y.2.1 17, y.2.2.1, y.2.2.2.1) (rF y.1 by_ 16) txt m i).1 txt (16 * i) j), aI E mp 35 ((sbN (zr0 y.2.1 17, y.2.2.1, y.2.2.2.1) (rF y.1 by_ 16) txt m i).2.1), aI E ma 19 ((sbN (zr0 y.2.1 17, y.2.2.1, y.2.2.2.1) (rF y.1 by_ 16) txt m i).2.2), aB E mg 16 y.2.2.2.2, aB E mx 864 txt, aB E rr bn by_] [(0, .ref h), (1, .ref rr), (2, .int (nI m)), (3, .int (nI (16 * i))), (4, .int (nI (min 16 (m - 16 * i)))), (5, .int (nI j))] 0 0 104 [] := by
                  intro zk
                  induction zk with
                  | zero =>
                    intro j  hi
                    obtain rfl : min 16 (m - 16 * i) = j := by omega
                    refine j_iload hg 5 dM_sumOf_104 rfl ?_
                    refine j_iload hg 4 dM_sumOf_106 rfl ?_
                    refine j_nge_t hg (tgt := 140) (min 16 (m - 16 * i)) (min 16 (m - 16 * i)) rfl rfl (by omega) (by omega) (by omega) dM_sumOf_108 (by decide) ?_
                    refine j_aload_n hg 0 dM_sumOf_140 rfl rfl ?_
                    refine j_get hg (C := RX4) (T := TX4) (N := 21) inX4 0 rfl rfl 14 (by decide) m342 rfl dM_sumOf_141 ?_
                    refine j_iload hg 4 dM_sumOf_144 rfl ?_
                    refine j_dup2_11 hg dM_sumOf_146 rfl rfl ?_
                    refine j_iald hg (v := (adT (sbN (zr0 y.2.1 17, y.2.2.1, y.2.2.2.1) (rF y.1 by_ 16) txt m i).1 txt (16 * i) (min 16 (m - 16 * i))) (min 16 (m - 16 * i))) 2 (min 16 (m - 16 * i)) rfl rfl (by omega) (by omega) rfl dM_sumOf_147 ?_
                    refine j_iconst hg (v := 1) dM_sumOf_148 (by decide) ?_
                    refine j_iadd hg (v := ((adT (sbN (zr0 y.2.1 17, y.2.2.1, y.2.2.2.1) (rF y.1 by_ 16) txt m i).1 txt (16 * i) (min 16 (m - 16 * i))) (min 16 (m - 16 * i))) + 1) dM_sumOf_149 rfl ?_
                    refine j_iast hg (ws' := [ob h 4 [.ref mt, .int (nI tn), .ref mo, .int (nI on), .ref mk, .ref mn, .ref mr, .int (nI rc), .ref mh, .ref mw, .ref mi, .ref mv, .ref mb, .ref ms, .ref mu, .ref mp, .ref mc, .ref mx, .ref mg, .ref ma, .int (nI tx)], aI E mc 16 (rF y.1 by_ 16), aI E mu 17 (upd (adT (sbN (zr0 y.2.1 17, y.2.2.1, y.2.2.2.1) (rF y.1 by_ 16) txt m i).1 txt (16 * i) (min 16 (m - 16 * i))) (min 16 (m - 16 * i)) (((adT (sbN (zr0 y.2.1 17, y.2.2.1, y.2.2.2.1) (rF y.1 by_ 16) txt m i).1 txt (16 * i) (min 16 (m - 16 * i))) (min 16 (m - 16 * i))) + 1)), aI E mp 35 ((sbN (zr0 y.2.1 17, y.2.2.1, y.2.2.2.1) (rF y.1 by_ 16) txt m i).2.1), aI E ma 19 ((sbN (zr0 y.2.1 17, y.2.2.1, y.2.2.2.1) (rF y.1 by_ 16) txt m i).2.2), aB E mg 16 y.2.2.2.2, aB E mx 864 txt, aB E rr bn by_]) 2 (min 16 (m - 16 * i)) rfl rfl (by omega) (by omega) rfl dM_sumOf_150 ?_
                    refine j_iconst hg (v := 0) dM_sumOf_151 (by decide) ?_
                    refine j_istore hg (lv' := [(5, .int 0), (0, .ref h), (1, .ref rr), (2, .int (nI m)), (3, .int (nI (16 * i))), (4, .int (nI (min 16 (m - 16 * i))))]) dM_sumOf_152 (by decide) rfl ?_
                    show J E 7 g [ob h 4 [.ref mt, .int (nI tn), .ref mo, .int (nI on), .ref mk, .ref mn, .ref mr, .int (nI rc), .ref mh, .ref mw, .ref mi, .ref mv, .ref mb, .ref ms, .ref mu, .ref mp, .ref mc, .ref mx, .ref mg, .ref ma, .int (nI tx)], aI E mc 16 (rF y.1 by_ 16), aI E mu 17 (sAd (sbN (zr0 y.2.1 17, y.2.2.1, y.2.2.2.1) (rF y.1 by_ 16) txt m i).1 txt (16 * i) (min 16 (m - 16 * i))), aI E mp 35 ((sbN (zr0 y.2.1 17, y.2.2.1, y.2.2.2.1) (rF y.1 by_ 16) txt m i).2.1), aI E ma 19 ((sbN (zr0 y.2.1 17, y.2.2.1, y.2.2.2.1) (rF y.1 by_ 16) txt m i).2.2), aB E mg 16 y.2.2.2.2, aB E mx 864 txt, aB E rr bn by_] [(5, .int 0), (0, .ref h), (1, .ref rr), (2, .int (nI m)), (3, .int (nI (16 * i))), (4, .int (nI (min 16 (m - 16 * i))))] 0 0 154 []
                    refine j_pick [1, 2, 3, 4, 5, 0] (lv' := [(0, .ref h), (1, .ref rr), (2, .int (nI m)), (3, .int (nI (16 * i))), (4, .int (nI (min 16 (m - 16 * i)))), (5, .int 0)]) rfl ?_
                    have loop5 : ∀ (zk j : Nat), j + zk = 35 → J E 7 g [ob h 4 [.ref mt, .int (nI tn), .ref mo, .int (nI on), .ref mk, .ref mn, .ref mr, .int (nI rc), .ref mh, .ref mw, .ref mi, .ref mv, .ref mb, .ref ms, .ref mu, .ref mp, .ref mc, .ref mx, .ref mg, .ref ma, .int (nI tx)], aI E mc 16 (rF y.1 by_ 16), aI E mu 17 (sAd (sbN (zr0 y.2.1 17, y.2.2.1, y.2.2.2.1) (rF y.1 by_ 16) txt m i).1 txt (16 * i) (min 16 (m - 16 * i))), aI E mp 35 (zr0 (sbN (zr0 y.2.1 17, y.2.2.1, y.2.2.2.1) (rF y.1 by_ 16) txt m i).2.1 j), aI E ma 19 ((sbN (zr0 y.2.1 17, y.2.2.1, y.2.2.2.1) (rF y.1 by_ 16) txt m i).2.2), aB E mg 16 y.2.2.2.2, aB E mx 864 txt, aB E rr bn by_] [(0, .ref h), (1, .ref rr), (2, .int (nI m)), (3, .int (nI (16 * i))), (4, .int (nI (min 16 (m - 16 * i)))), (5, .int (nI j))] 0 0 154 [] := by
                      intro zk
                      induction zk with
                      | zero =>
                        intro j  hi
                        obtain rfl : 35 = j := by omega
                        refine j_iload hg 5 dM_sumOf_154 rfl ?_
                        refine j_bipush hg (v := 35) dM_sumOf_156 (by decide) ?_
                        refine j_nge_t hg (tgt := 175) 35 35 rfl rfl (by omega) (by omega) (by omega) dM_sumOf_158 (by decide) ?_
                        refine j_iconst hg (v := 0) dM_sumOf_175 (by decide) ?_
                        refine j_istore hg (lv' := [(5, .int 0), (0, .ref h), (1, .ref rr), (2, .int (nI m)), (3, .int (nI (16 * i))), (4, .int (nI (min 16 (m - 16 * i))))]) dM_sumOf_176 (by decide) rfl ?_
                        refine j_pick [1, 2, 3, 4, 5, 0] (lv' := [(0, .ref h), (1, .ref rr), (2, .int (nI m)), (3, .int (nI (16 * i))), (4, .int (nI (min 16 (m - 16 * i)))), (5, .int 0)]) rfl ?_
                        have loop6 : ∀ (zk j : Nat), j + zk = 17 → J E 7 g [ob h 4 [.ref mt, .int (nI tn), .ref mo, .int (nI on), .ref mk, .ref mn, .ref mr, .int (nI rc), .ref mh, .ref mw, .ref mi, .ref mv, .ref mb, .ref ms, .ref mu, .ref mp, .ref mc, .ref mx, .ref mg, .ref ma, .int (nI tx)], aI E mc 16 (rF y.1 by_ 16), aI E mu 17 (sAd (sbN (zr0 y.2.1 17, y.2.2.1, y.2.2.2.1) (rF y.1 by_ 16) txt m i).1 txt (16 * i) (min 16 (m - 16 * i))), aI E mp 35 (pm1 (zr0 (sbN (zr0 y.2.1 17, y.2.2.1, y.2.2.2.1) (rF y.1 by_ 16) txt m i).2.1 35) (sAd (sbN (zr0 y.2.1 17, y.2.2.1, y.2.2.2.1) (rF y.1 by_ 16) txt m i).1 txt (16 * i) (min 16 (m - 16 * i))) (rF y.1 by_ 16) j), aI E ma 19 ((sbN (zr0 y.2.1 17, y.2.2.1, y.2.2.2.1) (rF y.1 by_ 16) txt m i).2.2), aB E mg 16 y.2.2.2.2, aB E mx 864 txt, aB E rr bn by_] [(0, .ref h), (1, .ref rr), (2, .int (nI m)), (3, .int (nI (16 * i))), (4, .int (nI (min 16 (m - 16 * i)))), (5, .int (nI j))] 0 0 178 [] := by
                          intro zk
                          induction zk with
                          | zero =>
                            intro j  hi
                            obtain rfl : 17 = j := by omega
                            refine j_iload hg 5 dM_sumOf_178 rfl ?_
                            refine j_bipush hg (v := 17) dM_sumOf_180 (by decide) ?_
                            refine j_nge_t hg (tgt := 235) 17 17 rfl rfl (by omega) (by omega) (by omega) dM_sumOf_182 (by decide) ?_
                            refine j_aload_n hg 0 dM_sumOf_235 rfl rfl ?_
                            refine j_callV hg (n := 0) (y := yM_settle) (rm := rm_M_settle) (Ws := (cT yM_settle cM_settle 3 none)) (As := []) (rest := []) (wr := [aI E mc 16 (rF y.1 by_ 16), aI E mu 17 (sAd (sbN (zr0 y.2.1 17, y.2.2.1, y.2.2.2.1) (rF y.1 by_ 16) txt m i).1 txt (16 * i) (min 16 (m - 16 * i))), aB E mg 16 y.2.2.2.2, aB E mx 864 txt, aB E rr bn by_]) 0 rfl rfl (c_M_settle l E h mt mo mk mn mr mh mw mi mv mb ms mu mp mc mx mg ma tn on rc tx (pm1 (zr0 (sbN (zr0 y.2.1 17, y.2.2.1, y.2.2.2.1) (rF y.1 by_ 16) txt m i).2.1 35) (sAd (sbN (zr0 y.2.1 17, y.2.2.1, y.2.2.2.1) (rF y.1 by_ 16) txt m i).1 txt (16 * i) (min 16 (m - 16 * i))) (rF y.1 by_ 16) 17, (sbN (zr0 y.2.1 17, y.2.2.1, y.2.2.2.1) (rF y.1 by_ 16) txt m i).2.2)) (gdV m446 m448 ms22 m5 m449) rfl (by decide +kernel) ⟨by decide, by decide⟩ rfl rfl (Nat.le_of_ble_eq_true rfl) ⟨by decide, by decide⟩ [0, 3, 4] [1, 2, 5, 6, 7] rfl rfl (by decide) (by decide) (by decide) dM_sumOf_236 (fun _ _ => ?_)
                            show J E 7 g [aI E mc 16 (rF y.1 by_ 16), aI E mu 17 (sAd (sbN (zr0 y.2.1 17, y.2.2.1, y.2.2.2.1) (rF y.1 by_ 16) txt m i).1 txt (16 * i) (min 16 (m - 16 * i))), aB E mg 16 y.2.2.2.2, aB E mx 864 txt, aB E rr bn by_, ob h 4 [.ref mt, .int (nI tn), .ref mo, .int (nI on), .ref mk, .ref mn, .ref mr, .int (nI rc), .ref mh, .ref mw, .ref mi, .ref mv, .ref mb, .ref ms, .ref mu, .ref mp, .ref mc, .ref mx, .ref mg, .ref ma, .int (nI tx)], aI E mp 35 ((stl (pm1 (zr0 (sbN (zr0 y.2.1 17, y.2.2.1, y.2.2.2.1) (rF y.1 by_ 16) txt m i).2.1 35) (sAd (sbN (zr0 y.2.1 17, y.2.2.1, y.2.2.2.1) (rF y.1 by_ 16) txt m i).1 txt (16 * i) (min 16 (m - 16 * i))) (rF y.1 by_ 16) 17, (sbN (zr0 y.2.1 17, y.2.2.1, y.2.2.2.1) (rF y.1 by_ 16) txt m i).2.2)).1), aI E ma 19 ((stl (pm1 (zr0 (sbN (zr0 y.2.1 17, y.2.2.1, y.2.2.2.1) (rF y.1 by_ 16) txt m i).2.1 35) (sAd (sbN (zr0 y.2.1 17, y.2.2.1, y.2.2.2.1) (rF y.1 by_ 16) txt m i).1 txt (16 * i) (min 16 (m - 16 * i))) (rF y.1 by_ 16) 17, (sbN (zr0 y.2.1 17, y.2.2.1, y.2.2.2.1) (rF y.1 by_ 16) txt m i).2.2)).2)] [(0, .ref h), (1, .ref rr), (2, .int (nI m)), (3, .int (nI (16 * i))), (4, .int (nI (min 16 (m - 16 * i)))), (5, .int 17)] 0 0 239 []
                            refine j_iconst hg (v := 0) dM_sumOf_239 (by decide) ?_
                            refine j_istore hg (lv' := [(5, .int 0), (0, .ref h), (1, .ref rr), (2, .int (nI m)), (3, .int (nI (16 * i))), (4, .int (nI (min 16 (m - 16 * i))))]) dM_sumOf_240 (by decide) rfl ?_
                            refine j_sub [5, 0, 1, 6, 7, 2, 3, 4] (ws' := [ob h 4 [.ref mt, .int (nI tn), .ref mo, .int (nI on), .ref mk, .ref mn, .ref mr, .int (nI rc), .ref mh, .ref mw, .ref mi, .ref mv, .ref mb, .ref ms, .ref mu, .ref mp, .ref mc, .ref mx, .ref mg, .ref ma, .int (nI tx)], aI E mc 16 (rF y.1 by_ 16), aI E mu 17 (sAd (sbN (zr0 y.2.1 17, y.2.2.1, y.2.2.2.1) (rF y.1 by_ 16) txt m i).1 txt (16 * i) (min 16 (m - 16 * i))), aI E mp 35 ((stl (pm1 (zr0 (sbN (zr0 y.2.1 17, y.2.2.1, y.2.2.2.1) (rF y.1 by_ 16) txt m i).2.1 35) (sAd (sbN (zr0 y.2.1 17, y.2.2.1, y.2.2.2.1) (rF y.1 by_ 16) txt m i).1 txt (16 * i) (min 16 (m - 16 * i))) (rF y.1 by_ 16) 17, (sbN (zr0 y.2.1 17, y.2.2.1, y.2.2.2.1) (rF y.1 by_ 16) txt m i).2.2)).1), aI E ma 19 ((stl (pm1 (zr0 (sbN (zr0 y.2.1 17, y.2.2.1, y.2.2.2.1) (rF y.1 by_ 16) txt m i).2.1 35) (sAd (sbN (zr0 y.2.1 17, y.2.2.1, y.2.2.2.1) (rF y.1 by_ 16) txt m i).1 txt (16 * i) (min 16 (m - 16 * i))) (rF y.1 by_ 16) 17, (sbN (zr0 y.2.1 17, y.2.2.1, y.2.2.2.1) (rF y.1 by_ 16) txt m i).2.2)).2), aB E mg 16 y.2.2.2.2, aB E mx 864 txt, aB E rr bn by_]) rfl (by decide) ?_
                            show J E 7 g [ob h 4 [.ref mt, .int (nI tn), .ref mo, .int (nI on), .ref mk, .ref mn, .ref mr, .int (nI rc), .ref mh, .ref mw, .ref mi, .ref mv, .ref mb, .ref ms, .ref mu, .ref mp, .ref mc, .ref mx, .ref mg, .ref ma, .int (nI tx)], aI E mc 16 (rF y.1 by_ 16), aI E mu 17 (sAd (sbN (zr0 y.2.1 17, y.2.2.1, y.2.2.2.1) (rF y.1 by_ 16) txt m i).1 txt (16 * i) (min 16 (m - 16 * i))), aI E mp 35 ((sPA (sbN (zr0 y.2.1 17, y.2.2.1, y.2.2.2.1) (rF y.1 by_ 16) txt m i) (rF y.1 by_ 16) txt (16 * i) (min 16 (m - 16 * i))).1), aI E ma 19 ((sPA (sbN (zr0 y.2.1 17, y.2.2.1, y.2.2.2.1) (rF y.1 by_ 16) txt m i) (rF y.1 by_ 16) txt (16 * i) (min 16 (m - 16 * i))).2), aB E mg 16 y.2.2.2.2, aB E mx 864 txt, aB E rr bn by_] [(5, .int 0), (0, .ref h), (1, .ref rr), (2, .int (nI m)), (3, .int (nI (16 * i))), (4, .int (nI (min 16 (m - 16 * i))))] 0 0 242 []
                            refine j_pick [1, 2, 3, 4, 5, 0] (lv' := [(0, .ref h), (1, .ref rr), (2, .int (nI m)), (3, .int (nI (16 * i))), (4, .int (nI (min 16 (m - 16 * i)))), (5, .int 0)]) rfl ?_
                            have loop8 : ∀ (zk j : Nat), j + zk = 17 → J E 7 g [ob h 4 [.ref mt, .int (nI tn), .ref mo, .int (nI on), .ref mk, .ref mn, .ref mr, .int (nI rc), .ref mh, .ref mw, .ref mi, .ref mv, .ref mb, .ref ms, .ref mu, .ref mp, .ref mc, .ref mx, .ref mg, .ref ma, .int (nI tx)], aI E mc 16 (rF y.1 by_ 16), aI E mu 17 (cpS (sPA (sbN (zr0 y.2.1 17, y.2.2.1, y.2.2.2.1) (rF y.1 by_ 16) txt m i) (rF y.1 by_ 16) txt (16 * i) (min 16 (m - 16 * i))).1 (sAd (sbN (zr0 y.2.1 17, y.2.2.1, y.2.2.2.1) (rF y.1 by_ 16) txt m i).1 txt (16 * i) (min 16 (m - 16 * i))) j), aI E mp 35 ((sPA (sbN (zr0 y.2.1 17, y.2.2.1, y.2.2.2.1) (rF y.1 by_ 16) txt m i) (rF y.1 by_ 16) txt (16 * i) (min 16 (m - 16 * i))).1), aI E ma 19 ((sPA (sbN (zr0 y.2.1 17, y.2.2.1, y.2.2.2.1) (rF y.1 by_ 16) txt m i) (rF y.1 by_ 16) txt (16 * i) (min 16 (m - 16 * i))).2), aB E mg 16 y.2.2.2.2, aB E mx 864 txt, aB E rr bn by_] [(0, .ref h), (1, .ref rr), (2, .int (nI m)), (3, .int (nI (16 * i))), (4, .int (nI (min 16 (m - 16 * i)))), (5, .int (nI j))] 0 0 242 [] := by
                              intro zk
                              induction zk with
                              | zero =>
                                intro j  hi
                                obtain rfl : 17 = j := by omega
                                refine j_iload hg 5 dM_sumOf_242 rfl ?_
                                refine j_bipush hg (v := 17) dM_sumOf_244 (by decide) ?_
                                refine j_nge_t hg (tgt := 269) 17 17 rfl rfl (by omega) (by omega) (by omega) dM_sumOf_246 (by decide) ?_
                                refine j_iinc hg (kq := 3) (v := nI (16 * (i + 1))) (lv' := [(3, .int (nI (16 * (i + 1)))), (0, .ref h), (1, .ref rr), (2, .int (nI m)), (4, .int (nI (min 16 (m - 16 * i)))), (5, .int 17)]) dM_sumOf_269 rfl (Eq.trans (nI_add (16 * i) 16) (congrArg nI (by omega))) (by decide) rfl ?_
                                refine j_goto hg (tgt := 78) dM_sumOf_272 (by decide) ?_
                                refine j_pick [1, 2, 3, 0] (lv' := [(0, .ref h), (1, .ref rr), (2, .int (nI m)), (3, .int (nI (16 * (i + 1))))]) rfl ?_
                                have ih1 := ih (i + 1) (by omega)
                                have es : sbN (zr0 y.2.1 17, y.2.2.1, y.2.2.2.1) (rF y.1 by_ 16) txt m (i + 1) = sb0 (sbN (zr0 y.2.1 17, y.2.2.1, y.2.2.2.1) (rF y.1 by_ 16) txt m i) (rF y.1 by_ 16) txt (16 * i) (min 16 (m - 16 * i)) := by show sbF _ _ _ _ _ = _; rw [sbF_eq]
                                rw [es] at ih1
                                exact ih1
                              | succ zk ih =>
                                intro j  hi
                                refine j_iload hg 5 dM_sumOf_242 rfl ?_
                                refine j_bipush hg (v := 17) dM_sumOf_244 (by decide) ?_
                                refine j_nge_f hg (tgt := 269) j 17 rfl rfl (by omega) (by omega) (by omega) dM_sumOf_246 (by decide) ?_
                                refine j_aload_n hg 0 dM_sumOf_249 rfl rfl ?_
                                refine j_get hg (C := RX4) (T := TX4) (N := 21) inX4 0 rfl rfl 14 (by decide) m342 rfl dM_sumOf_250 ?_
                                refine j_iload hg 5 dM_sumOf_253 rfl ?_
                                refine j_aload_n hg 0 dM_sumOf_255 rfl rfl ?_
                                refine j_get hg (C := RX4) (T := TX4) (N := 21) inX4 0 rfl rfl 15 (by decide) m343 rfl dM_sumOf_256 ?_
                                refine j_iload hg 5 dM_sumOf_259 rfl ?_
                                refine j_iald hg (v := ((sPA (sbN (zr0 y.2.1 17, y.2.2.1, y.2.2.2.1) (rF y.1 by_ 16) txt m i) (rF y.1 by_ 16) txt (16 * i) (min 16 (m - 16 * i))).1) j) 3 j rfl rfl (by omega) (by omega) rfl dM_sumOf_261 ?_
                                refine j_iast hg (ws' := [ob h 4 [.ref mt, .int (nI tn), .ref mo, .int (nI on), .ref mk, .ref mn, .ref mr, .int (nI rc), .ref mh, .ref mw, .ref mi, .ref mv, .ref mb, .ref ms, .ref mu, .ref mp, .ref mc, .ref mx, .ref mg, .ref ma, .int (nI tx)], aI E mc 16 (rF y.1 by_ 16), aI E mu 17 (upd (cpS (sPA (sbN (zr0 y.2.1 17, y.2.2.1, y.2.2.2.1) (rF y.1 by_ 16) txt m i) (rF y.1 by_ 16) txt (16 * i) (min 16 (m - 16 * i))).1 (sAd (sbN (zr0 y.2.1 17, y.2.2.1, y.2.2.2.1) (rF y.1 by_ 16) txt m i).1 txt (16 * i) (min 16 (m - 16 * i))) j) j (((sPA (sbN (zr0 y.2.1 17, y.2.2.1, y.2.2.2.1) (rF y.1 by_ 16) txt m i) (rF y.1 by_ 16) txt (16 * i) (min 16 (m - 16 * i))).1) j)), aI E mp 35 ((sPA (sbN (zr0 y.2.1 17, y.2.2.1, y.2.2.2.1) (rF y.1 by_ 16) txt m i) (rF y.1 by_ 16) txt (16 * i) (min 16 (m - 16 * i))).1), aI E ma 19 ((sPA (sbN (zr0 y.2.1 17, y.2.2.1, y.2.2.2.1) (rF y.1 by_ 16) txt m i) (rF y.1 by_ 16) txt (16 * i) (min 16 (m - 16 * i))).2), aB E mg 16 y.2.2.2.2, aB E mx 864 txt, aB E rr bn by_]) 2 j rfl rfl (by omega) (by omega) rfl dM_sumOf_262 ?_
                                refine j_iinc hg (kq := 5) (v := nI (j + 1)) (lv' := [(5, .int (nI (j + 1))), (0, .ref h), (1, .ref rr), (2, .int (nI m)), (3, .int (nI (16 * i))), (4, .int (nI (min 16 (m - 16 * i))))]) dM_sumOf_263 rfl (nI_add j 1) (by decide) rfl ?_
                                refine j_goto hg (tgt := 242) dM_sumOf_266 (by decide) ?_
                                refine j_pick [1, 2, 3, 4, 5, 0] (lv' := [(0, .ref h), (1, .ref rr), (2, .int (nI m)), (3, .int (nI (16 * i))), (4, .int (nI (min 16 (m - 16 * i)))), (5, .int (nI (j + 1)))]) rfl ?_
                                exact ih (j + 1) (by omega)
                            exact loop8 (17) 0 (by omega)
                          | succ zk ih =>
                            intro j  hi
                            refine j_iload hg 5 dM_sumOf_178 rfl ?_
                            refine j_bipush hg (v := 17) dM_sumOf_180 (by decide) ?_
                            refine j_nge_f hg (tgt := 235) j 17 rfl rfl (by omega) (by omega) (by omega) dM_sumOf_182 (by decide) ?_
                            refine j_iconst hg (v := 0) dM_sumOf_185 (by decide) ?_
                            refine j_istore hg (lv' := [(6, .int 0), (0, .ref h), (1, .ref rr), (2, .int (nI m)), (3, .int (nI (16 * i))), (4, .int (nI (min 16 (m - 16 * i)))), (5, .int (nI j))]) dM_sumOf_186 (by decide) rfl ?_
                            refine j_pick [1, 2, 3, 4, 5, 6, 0] (lv' := [(0, .ref h), (1, .ref rr), (2, .int (nI m)), (3, .int (nI (16 * i))), (4, .int (nI (min 16 (m - 16 * i)))), (5, .int (nI j)), (6, .int 0)]) rfl ?_
                            have loop7 : ∀ (zk t : Nat), t + zk = 16 → J E 7 g [ob h 4 [.ref mt, .int (nI tn), .ref mo, .int (nI on), .ref mk, .ref mn, .ref mr, .int (nI rc), .ref mh, .ref mw, .ref mi, .ref mv, .ref mb, .ref ms, .ref mu, .ref mp, .ref mc, .ref mx, .ref mg, .ref ma, .int (nI tx)], aI E mc 16 (rF y.1 by_ 16), aI E mu 17 (sAd (sbN (zr0 y.2.1 17, y.2.2.1, y.2.2.2.1) (rF y.1 by_ 16) txt m i).1 txt (16 * i) (min 16 (m - 16 * i))), aI E mp 35 (pm2 (pm1 (zr0 (sbN (zr0 y.2.1 17, y.2.2.1, y.2.2.2.1) (rF y.1 by_ 16) txt m i).2.1 35) (sAd (sbN (zr0 y.2.1 17, y.2.2.1, y.2.2.2.1) (rF y.1 by_ 16) txt m i).1 txt (16 * i) (min 16 (m - 16 * i))) (rF y.1 by_ 16) j) (sAd (sbN (zr0 y.2.1 17, y.2.2.1, y.2.2.2.1) (rF y.1 by_ 16) txt m i).1 txt (16 * i) (min 16 (m - 16 * i))) (rF y.1 by_ 16) j t), aI E ma 19 ((sbN (zr0 y.2.1 17, y.2.2.1, y.2.2.2.1) (rF y.1 by_ 16) txt m i).2.2), aB E mg 16 y.2.2.2.2, aB E mx 864 txt, aB E rr bn by_] [(0, .ref h), (1, .ref rr), (2, .int (nI m)), (3, .int (nI (16 * i))), (4, .int (nI (min 16 (m - 16 * i)))), (5, .int (nI j)), (6, .int (nI t))] 0 0 188 [] := by
                              intro zk
                              induction zk with
                              | zero =>
                                intro t  hi
                                obtain rfl : 16 = t := by omega
                                refine j_iload hg 6 dM_sumOf_188 rfl ?_
                                refine j_bipush hg (v := 16) dM_sumOf_190 (by decide) ?_
                                refine j_nge_t hg (tgt := 229) 16 16 rfl rfl (by omega) (by omega) (by omega) dM_sumOf_192 (by decide) ?_
                                refine j_iinc hg (kq := 5) (v := nI (j + 1)) (lv' := [(5, .int (nI (j + 1))), (0, .ref h), (1, .ref rr), (2, .int (nI m)), (3, .int (nI (16 * i))), (4, .int (nI (min 16 (m - 16 * i)))), (6, .int 16)]) dM_sumOf_229 rfl (nI_add j 1) (by decide) rfl ?_
                                refine j_goto hg (tgt := 178) dM_sumOf_232 (by decide) ?_
                                refine j_pick [1, 2, 3, 4, 5, 0] (lv' := [(0, .ref h), (1, .ref rr), (2, .int (nI m)), (3, .int (nI (16 * i))), (4, .int (nI (min 16 (m - 16 * i)))), (5, .int (nI (j + 1)))]) rfl ?_
                                exact ih (j + 1) (by omega)
                              | succ zk ih =>
                                intro t  hi
                                refine j_iload hg 6 dM_sumOf_188 rfl ?_
                                refine j_bipush hg (v := 16) dM_sumOf_190 (by decide) ?_
                                refine j_nge_f hg (tgt := 229) t 16 rfl rfl (by omega) (by omega) (by omega) dM_sumOf_192 (by decide) ?_
                                refine j_aload_n hg 0 dM_sumOf_195 rfl rfl ?_
                                refine j_get hg (C := RX4) (T := TX4) (N := 21) inX4 0 rfl rfl 15 (by decide) m343 rfl dM_sumOf_196 ?_
                                refine j_iload hg 5 dM_sumOf_199 rfl ?_
                                refine j_iload hg 6 dM_sumOf_201 rfl ?_
                                refine j_iadd hg (v := nI (j + t)) dM_sumOf_203 (nI_add j t) ?_
                                refine j_dup2_11 hg dM_sumOf_204 rfl rfl ?_
                                refine j_iald hg (v := (pm2 (pm1 (zr0 (sbN (zr0 y.2.1 17, y.2.2.1, y.2.2.2.1) (rF y.1 by_ 16) txt m i).2.1 35) (sAd (sbN (zr0 y.2.1 17, y.2.2.1, y.2.2.2.1) (rF y.1 by_ 16) txt m i).1 txt (16 * i) (min 16 (m - 16 * i))) (rF y.1 by_ 16) j) (sAd (sbN (zr0 y.2.1 17, y.2.2.1, y.2.2.2.1) (rF y.1 by_ 16) txt m i).1 txt (16 * i) (min 16 (m - 16 * i))) (rF y.1 by_ 16) j t) (j + t)) 3 (j + t) rfl rfl (by omega) (by omega) rfl dM_sumOf_205 ?_
                                refine j_aload_n hg 0 dM_sumOf_206 rfl rfl ?_
                                refine j_get hg (C := RX4) (T := TX4) (N := 21) inX4 0 rfl rfl 14 (by decide) m342 rfl dM_sumOf_207 ?_
                                refine j_iload hg 5 dM_sumOf_210 rfl ?_
                                refine j_iald hg (v := (sAd (sbN (zr0 y.2.1 17, y.2.2.1, y.2.2.2.1) (rF y.1 by_ 16) txt m i).1 txt (16 * i) (min 16 (m - 16 * i))) j) 2 j rfl rfl (by omega) (by omega) rfl dM_sumOf_212 ?_
                                refine j_aload_n hg 0 dM_sumOf_213 rfl rfl ?_
                                refine j_get hg (C := RX4) (T := TX4) (N := 21) inX4 0 rfl rfl 16 (by decide) m344 rfl dM_sumOf_214 ?_
                                refine j_iload hg 6 dM_sumOf_217 rfl ?_
                                refine j_iald hg (v := (rF y.1 by_ 16) t) 1 t rfl rfl (by omega) (by omega) rfl dM_sumOf_219 ?_
                                refine j_imul hg (v := ((sAd (sbN (zr0 y.2.1 17, y.2.2.1, y.2.2.2.1) (rF y.1 by_ 16) txt m i).1 txt (16 * i) (min 16 (m - 16 * i))) j) * ((rF y.1 by_ 16) t)) dM_sumOf_220 rfl ?_
                                refine j_iadd hg (v := ((pm2 (pm1 (zr0 (sbN (zr0 y.2.1 17, y.2.2.1, y.2.2.2.1) (rF y.1 by_ 16) txt m i).2.1 35) (sAd (sbN (zr0 y.2.1 17, y.2.2.1, y.2.2.2.1) (rF y.1 by_ 16) txt m i).1 txt (16 * i) (min 16 (m - 16 * i))) (rF y.1 by_ 16) j) (sAd (sbN (zr0 y.2.1 17, y.2.2.1, y.2.2.2.1) (rF y.1 by_ 16) txt m i).1 txt (16 * i) (min 16 (m - 16 * i))) (rF y.1 by_ 16) j t) (j + t)) + (((sAd (sbN (zr0 y.2.1 17, y.2.2.1, y.2.2.2.1) (rF y.1 by_ 16) txt m i).1 txt (16 * i) (min 16 (m - 16 * i))) j) * ((rF y.1 by_ 16) t))) dM_sumOf_221 rfl ?_
                                refine j_iast hg (ws' := [ob h 4 [.ref mt, .int (nI tn), .ref mo, .int (nI on), .ref mk, .ref mn, .ref mr, .int (nI rc), .ref mh, .ref mw, .ref mi, .ref mv, .ref mb, .ref ms, .ref mu, .ref mp, .ref mc, .ref mx, .ref mg, .ref ma, .int (nI tx)], aI E mc 16 (rF y.1 by_ 16), aI E mu 17 (sAd (sbN (zr0 y.2.1 17, y.2.2.1, y.2.2.2.1) (rF y.1 by_ 16) txt m i).1 txt (16 * i) (min 16 (m - 16 * i))), aI E mp 35 (upd (pm2 (pm1 (zr0 (sbN (zr0 y.2.1 17, y.2.2.1, y.2.2.2.1) (rF y.1 by_ 16) txt m i).2.1 35) (sAd (sbN (zr0 y.2.1 17, y.2.2.1, y.2.2.2.1) (rF y.1 by_ 16) txt m i).1 txt (16 * i) (min 16 (m - 16 * i))) (rF y.1 by_ 16) j) (sAd (sbN (zr0 y.2.1 17, y.2.2.1, y.2.2.2.1) (rF y.1 by_ 16) txt m i).1 txt (16 * i) (min 16 (m - 16 * i))) (rF y.1 by_ 16) j t) (j + t) (((pm2 (pm1 (zr0 (sbN (zr0 y.2.1 17, y.2.2.1, y.2.2.2.1) (rF y.1 by_ 16) txt m i).2.1 35) (sAd (sbN (zr0 y.2.1 17, y.2.2.1, y.2.2.2.1) (rF y.1 by_ 16) txt m i).1 txt (16 * i) (min 16 (m - 16 * i))) (rF y.1 by_ 16) j) (sAd (sbN (zr0 y.2.1 17, y.2.2.1, y.2.2.2.1) (rF y.1 by_ 16) txt m i).1 txt (16 * i) (min 16 (m - 16 * i))) (rF y.1 by_ 16) j t) (j + t)) + (((sAd (sbN (zr0 y.2.1 17, y.2.2.1, y.2.2.2.1) (rF y.1 by_ 16) txt m i).1 txt (16 * i) (min 16 (m - 16 * i))) j) * ((rF y.1 by_ 16) t)))), aI E ma 19 ((sbN (zr0 y.2.1 17, y.2.2.1, y.2.2.2.1) (rF y.1 by_ 16) txt m i).2.2), aB E mg 16 y.2.2.2.2, aB E mx 864 txt, aB E rr bn by_]) 3 (j + t) rfl rfl (by omega) (by omega) rfl dM_sumOf_222 ?_
                                refine j_iinc hg (kq := 6) (v := nI (t + 1)) (lv' := [(6, .int (nI (t + 1))), (0, .ref h), (1, .ref rr), (2, .int (nI m)), (3, .int (nI (16 * i))), (4, .int (nI (min 16 (m - 16 * i)))), (5, .int (nI j))]) dM_sumOf_223 rfl (nI_add t 1) (by decide) rfl ?_
                                refine j_goto hg (tgt := 188) dM_sumOf_226 (by decide) ?_
                                refine j_pick [1, 2, 3, 4, 5, 6, 0] (lv' := [(0, .ref h), (1, .ref rr), (2, .int (nI m)), (3, .int (nI (16 * i))), (4, .int (nI (min 16 (m - 16 * i)))), (5, .int (nI j)), (6, .int (nI (t + 1)))]) rfl ?_
                                exact ih (t + 1) (by omega)
                            exact loop7 (16) 0 (by omega)
                        exact loop6 (17) 0 (by omega)
                      | succ zk ih =>
                        intro j  hi
                        refine j_iload hg 5 dM_sumOf_154 rfl ?_
                        refine j_bipush hg (v := 35) dM_sumOf_156 (by decide) ?_
                        refine j_nge_f hg (tgt := 175) j 35 rfl rfl (by omega) (by omega) (by omega) dM_sumOf_158 (by decide) ?_
                        refine j_aload_n hg 0 dM_sumOf_161 rfl rfl ?_
                        refine j_get hg (C := RX4) (T := TX4) (N := 21) inX4 0 rfl rfl 15 (by decide) m343 rfl dM_sumOf_162 ?_
                        refine j_iload hg 5 dM_sumOf_165 rfl ?_
                        refine j_iconst hg (v := 0) dM_sumOf_167 (by decide) ?_
                        refine j_iast hg (ws' := [ob h 4 [.ref mt, .int (nI tn), .ref mo, .int (nI on), .ref mk, .ref mn, .ref mr, .int (nI rc), .ref mh, .ref mw, .ref mi, .ref mv, .ref mb, .ref ms, .ref mu, .ref mp, .ref mc, .ref mx, .ref mg, .ref ma, .int (nI tx)], aI E mc 16 (rF y.1 by_ 16), aI E mu 17 (sAd (sbN (zr0 y.2.1 17, y.2.2.1, y.2.2.2.1) (rF y.1 by_ 16) txt m i).1 txt (16 * i) (min 16 (m - 16 * i))), aI E mp 35 (upd (zr0 (sbN (zr0 y.2.1 17, y.2.2.1, y.2.2.2.1) (rF y.1 by_ 16) txt m i).2.1 j) j 0), aI E ma 19 ((sbN (zr0 y.2.1 17, y.2.2.1, y.2.2.2.1) (rF y.1 by_ 16) txt m i).2.2), aB E mg 16 y.2.2.2.2, aB E mx 864 txt, aB E rr bn by_]) 3 j rfl rfl (by omega) (by omega) rfl dM_sumOf_168 ?_
                        refine j_iinc hg (kq := 5) (v := nI (j + 1)) (lv' := [(5, .int (nI (j + 1))), (0, .ref h), (1, .ref rr), (2, .int (nI m)), (3, .int (nI (16 * i))), (4, .int (nI (min 16 (m - 16 * i))))]) dM_sumOf_169 rfl (Eq.trans (nI_add j 1) (congrArg nI (by omega))) (by decide) rfl ?_
                        refine j_goto hg (tgt := 154) dM_sumOf_172 (by decide) ?_
                        refine j_pick [1, 2, 3, 4, 5, 0] (lv' := [(0, .ref h), (1, .ref rr), (2, .int (nI m)), (3, .int (nI (16 * i))), (4, .int (nI (min 16 (m - 16 * i)))), (5, .int (nI (j + 1)))]) rfl ?_
                        exact ih (j + 1) (by omega)
                    exact loop5 (35) 0 (by omega)
                  | succ zk ih =>
                    intro j  hi
                    refine j_iload hg 5 dM_sumOf_104 rfl ?_
                    refine j_iload hg 4 dM_sumOf_106 rfl ?_
                    refine j_nge_f hg (tgt := 140) j (min 16 (m - 16 * i)) rfl rfl (by omega) (by omega) (by omega) dM_sumOf_108 (by decide) ?_
                    refine j_aload_n hg 0 dM_sumOf_111 rfl rfl ?_
                    refine j_get hg (C := RX4) (T := TX4) (N := 21) inX4 0 rfl rfl 14 (by decide) m342 rfl dM_sumOf_112 ?_
                    refine j_iload hg 5 dM_sumOf_115 rfl ?_
                    refine j_dup2_11 hg dM_sumOf_117 rfl rfl ?_
                    refine j_iald hg (v := (adT (sbN (zr0 y.2.1 17, y.2.2.1, y.2.2.2.1) (rF y.1 by_ 16) txt m i).1 txt (16 * i) j) j) 2 j rfl rfl (by omega) (by omega) rfl dM_sumOf_118 ?_
                    refine j_aload_n hg 0 dM_sumOf_119 rfl rfl ?_
                    refine j_get hg (C := RX4) (T := TX4) (N := 21) inX4 0 rfl rfl 17 (by decide) m345 rfl dM_sumOf_120 ?_
                    refine j_iload_n hg 3 dM_sumOf_123 rfl rfl ?_
                    refine j_iload hg 5 dM_sumOf_124 rfl ?_
                    refine j_iadd hg (v := nI (16 * i + j)) dM_sumOf_126 (nI_add (16 * i) j) ?_
                    refine j_bald hg (v := txt (16 * i + j)) 6 (16 * i + j) rfl rfl (by omega) (by omega) rfl dM_sumOf_127 ?_
                    refine j_sipush hg (v := 255) dM_sumOf_128 (by decide) ?_
                    refine j_iand hg (v := (txt (16 * i + j)) &&& 255) dM_sumOf_131 rfl ?_
                    refine j_iadd hg (v := ((adT (sbN (zr0 y.2.1 17, y.2.2.1, y.2.2.2.1) (rF y.1 by_ 16) txt m i).1 txt (16 * i) j) j) + ((txt (16 * i + j)) &&& 255)) dM_sumOf_132 rfl ?_
                    refine j_iast hg (ws' := [ob h 4 [.ref mt, .int (nI tn), .ref mo, .int (nI on), .ref mk, .ref mn, .ref mr, .int (nI rc), .ref mh, .ref mw, .ref mi, .ref mv, .ref mb, .ref ms, .ref mu, .ref mp, .ref mc, .ref mx, .ref mg, .ref ma, .int (nI tx)], aI E mc 16 (rF y.1 by_ 16), aI E mu 17 (upd (adT (sbN (zr0 y.2.1 17, y.2.2.1, y.2.2.2.1) (rF y.1 by_ 16) txt m i).1 txt (16 * i) j) j (((adT (sbN (zr0 y.2.1 17, y.2.2.1, y.2.2.2.1) (rF y.1 by_ 16) txt m i).1 txt (16 * i) j) j) + ((txt (16 * i + j)) &&& 255))), aI E mp 35 ((sbN (zr0 y.2.1 17, y.2.2.1, y.2.2.2.1) (rF y.1 by_ 16) txt m i).2.1), aI E ma 19 ((sbN (zr0 y.2.1 17, y.2.2.1, y.2.2.2.1) (rF y.1 by_ 16) txt m i).2.2), aB E mg 16 y.2.2.2.2, aB E mx 864 txt, aB E rr bn by_]) 2 j rfl rfl (by omega) (by omega) rfl dM_sumOf_133 ?_
                    refine j_iinc hg (kq := 5) (v := nI (j + 1)) (lv' := [(5, .int (nI (j + 1))), (0, .ref h), (1, .ref rr), (2, .int (nI m)), (3, .int (nI (16 * i))), (4, .int (nI (min 16 (m - 16 * i))))]) dM_sumOf_134 rfl (nI_add j 1) (by decide) rfl ?_
                    refine j_goto hg (tgt := 104) dM_sumOf_137 (by decide) ?_
                    refine j_pick [1, 2, 3, 4, 5, 0] (lv' := [(0, .ref h), (1, .ref rr), (2, .int (nI m)), (3, .int (nI (16 * i))), (4, .int (nI (min 16 (m - 16 * i)))), (5, .int (nI (j + 1)))]) rfl ?_
                    exact ih (j + 1) (by omega)
                exact loop4 (min 16 (m - 16 * i)) 0 (by omega)
          exact loop3 ((m + 15) / 16) 0 (by omega)
        | succ zk ih =>
          intro i  hi
          refine j_iload_n hg 3 dM_sumOf_57 rfl rfl ?_
          refine j_bipush hg (v := 17) dM_sumOf_58 (by decide) ?_
          refine j_nge_f hg (tgt := 76) i 17 rfl rfl (by omega) (by omega) (by omega) dM_sumOf_60 (by decide) ?_
          refine j_aload_n hg 0 dM_sumOf_63 rfl rfl ?_
          refine j_get hg (C := RX4) (T := TX4) (N := 21) inX4 0 rfl rfl 14 (by decide) m342 rfl dM_sumOf_64 ?_
          refine j_iload_n hg 3 dM_sumOf_67 rfl rfl ?_
          refine j_iconst hg (v := 0) dM_sumOf_68 (by decide) ?_
          refine j_iast hg (ws' := [ob h 4 [.ref mt, .int (nI tn), .ref mo, .int (nI on), .ref mk, .ref mn, .ref mr, .int (nI rc), .ref mh, .ref mw, .ref mi, .ref mv, .ref mb, .ref ms, .ref mu, .ref mp, .ref mc, .ref mx, .ref mg, .ref ma, .int (nI tx)], aI E mc 16 (rF y.1 by_ 16), aI E mu 17 (upd (zr0 y.2.1 i) i 0), aI E mp 35 y.2.2.1, aI E ma 19 y.2.2.2.1, aB E mg 16 y.2.2.2.2, aB E mx 864 txt, aB E rr bn by_]) 2 i rfl rfl (by omega) (by omega) rfl dM_sumOf_69 ?_
          refine j_iinc hg (kq := 3) (v := nI (i + 1)) (lv' := [(3, .int (nI (i + 1))), (0, .ref h), (1, .ref rr), (2, .int (nI m))]) dM_sumOf_70 rfl (Eq.trans (nI_add i 1) (congrArg nI (by omega))) (by decide) rfl ?_
          refine j_goto hg (tgt := 57) dM_sumOf_73 (by decide) ?_
          refine j_pick [1, 2, 3, 0] (lv' := [(0, .ref h), (1, .ref rr), (2, .int (nI m)), (3, .int (nI (i + 1)))]) rfl ?_
          exact ih (i + 1) (by omega)
      exact loop2 (17) 0 (by omega)
    | succ zk ih =>
      intro i  hi
      refine j_iload_n hg 3 dM_sumOf_2 rfl rfl ?_
      refine j_bipush hg (v := 16) dM_sumOf_3 (by decide) ?_
      refine j_nge_f hg (tgt := 55) i 16 rfl rfl (by omega) (by omega) (by omega) dM_sumOf_5 (by decide) ?_
      refine j_aload_n hg 0 dM_sumOf_8 rfl rfl ?_
      refine j_get hg (C := RX4) (T := TX4) (N := 21) inX4 0 rfl rfl 16 (by decide) m344 rfl dM_sumOf_9 ?_
      refine j_iload_n hg 3 dM_sumOf_12 rfl rfl ?_
      refine j_aload_n hg 1 dM_sumOf_13 rfl rfl ?_
      refine j_iload_n hg 3 dM_sumOf_14 rfl rfl ?_
      refine j_bald hg (v := by_ i) 7 i rfl rfl (by omega) (by omega) rfl dM_sumOf_15 ?_
      refine j_iload_n hg 3 dM_sumOf_16 rfl rfl ?_
      refine j_iconst hg (v := 4) dM_sumOf_17 (by decide) ?_
      refine j_irem hg (v := nI (i % 4)) dM_sumOf_18 (by decide) (pk_rem (a := i) (d := 4) (by omega) (by decide) (by decide)) ?_
      refine j_iconst hg (v := 3) dM_sumOf_19 (by decide) ?_
      refine j_nne hg (tgt := 28) (i % 4) 3 rfl rfl (by omega) (by omega) dM_sumOf_20 (by decide) (fun hc => ?_) (fun hc => ?_)
      · skip
        refine j_iload_n hg 3 dM_sumOf_28 rfl rfl ?_
        refine j_zle hg (tgt := 44) i rfl (by omega) dM_sumOf_29 (by decide) (fun hd => ?_) (fun hd => ?_)
        · skip
          refine j_sipush hg (v := 255) dM_sumOf_44 (by decide) ?_
          refine j_topi (show (255 : Int32) = rmask i from by unfold rmask; rw [if_neg (by omega), if_neg (by omega)]) ?_
          refine j_iand hg (v := (by_ i) &&& (rmask i)) dM_sumOf_47 rfl ?_
          refine j_iast hg (ws' := [ob h 4 [.ref mt, .int (nI tn), .ref mo, .int (nI on), .ref mk, .ref mn, .ref mr, .int (nI rc), .ref mh, .ref mw, .ref mi, .ref mv, .ref mb, .ref ms, .ref mu, .ref mp, .ref mc, .ref mx, .ref mg, .ref ma, .int (nI tx)], aI E mc 16 (upd (rF y.1 by_ i) i ((by_ i) &&& (rmask i))), aI E mu 17 y.2.1, aI E mp 35 y.2.2.1, aI E ma 19 y.2.2.2.1, aB E mg 16 y.2.2.2.2, aB E mx 864 txt, aB E rr bn by_]) 1 i rfl rfl (by omega) (by omega) rfl dM_sumOf_48 ?_
          refine j_iinc hg (kq := 3) (v := nI (i + 1)) (lv' := [(3, .int (nI (i + 1))), (0, .ref h), (1, .ref rr), (2, .int (nI m))]) dM_sumOf_49 rfl (nI_add i 1) (by decide) rfl ?_
          refine j_goto hg (tgt := 2) dM_sumOf_52 (by decide) ?_
          refine j_pick [1, 2, 3, 0] (lv' := [(0, .ref h), (1, .ref rr), (2, .int (nI m)), (3, .int (nI (i + 1)))]) rfl ?_
          exact ih (i + 1) (by omega)
        · skip
          refine j_iload_n hg 3 dM_sumOf_32 rfl rfl ?_
          refine j_iconst hg (v := 4) dM_sumOf_33 (by decide) ?_
          refine j_irem hg (v := nI (i % 4)) dM_sumOf_34 (by decide) (pk_rem (a := i) (d := 4) (by omega) (by decide) (by decide)) ?_
          refine j_zne hg (tgt := 44) (i % 4) rfl (by omega) dM_sumOf_35 (by decide) (fun he => ?_) (fun he => ?_)
          · skip
            refine j_sipush hg (v := 255) dM_sumOf_44 (by decide) ?_
            refine j_topi (show (255 : Int32) = rmask i from by unfold rmask; rw [if_neg (by omega), if_neg (by omega)]) ?_
            refine j_iand hg (v := (by_ i) &&& (rmask i)) dM_sumOf_47 rfl ?_
            refine j_iast hg (ws' := [ob h 4 [.ref mt, .int (nI tn), .ref mo, .int (nI on), .ref mk, .ref mn, .ref mr, .int (nI rc), .ref mh, .ref mw, .ref mi, .ref mv, .ref mb, .ref ms, .ref mu, .ref mp, .ref mc, .ref mx, .ref mg, .ref ma, .int (nI tx)], aI E mc 16 (upd (rF y.1 by_ i) i ((by_ i) &&& (rmask i))), aI E mu 17 y.2.1, aI E mp 35 y.2.2.1, aI E ma 19 y.2.2.2.1, aB E mg 16 y.2.2.2.2, aB E mx 864 txt, aB E rr bn by_]) 1 i rfl rfl (by omega) (by omega) rfl dM_sumOf_48 ?_
            refine j_iinc hg (kq := 3) (v := nI (i + 1)) (lv' := [(3, .int (nI (i + 1))), (0, .ref h), (1, .ref rr), (2, .int (nI m))]) dM_sumOf_49 rfl (nI_add i 1) (by decide) rfl ?_
            refine j_goto hg (tgt := 2) dM_sumOf_52 (by decide) ?_
            refine j_pick [1, 2, 3, 0] (lv' := [(0, .ref h), (1, .ref rr), (2, .int (nI m)), (3, .int (nI (i + 1)))]) rfl ?_
            exact ih (i + 1) (by omega)
          · skip
            refine j_sipush hg (v := 252) dM_sumOf_38 (by decide) ?_
            refine j_goto hg (tgt := 47) dM_sumOf_41 (by decide) ?_
            refine j_topi (show (252 : Int32) = rmask i from by unfold rmask; rw [if_neg (by omega), if_pos (by omega)]) ?_
            refine j_iand hg (v := (by_ i) &&& (rmask i)) dM_sumOf_47 rfl ?_
            refine j_iast hg (ws' := [ob h 4 [.ref mt, .int (nI tn), .ref mo, .int (nI on), .ref mk, .ref mn, .ref mr, .int (nI rc), .ref mh, .ref mw, .ref mi, .ref mv, .ref mb, .ref ms, .ref mu, .ref mp, .ref mc, .ref mx, .ref mg, .ref ma, .int (nI tx)], aI E mc 16 (upd (rF y.1 by_ i) i ((by_ i) &&& (rmask i))), aI E mu 17 y.2.1, aI E mp 35 y.2.2.1, aI E ma 19 y.2.2.2.1, aB E mg 16 y.2.2.2.2, aB E mx 864 txt, aB E rr bn by_]) 1 i rfl rfl (by omega) (by omega) rfl dM_sumOf_48 ?_
            refine j_iinc hg (kq := 3) (v := nI (i + 1)) (lv' := [(3, .int (nI (i + 1))), (0, .ref h), (1, .ref rr), (2, .int (nI m))]) dM_sumOf_49 rfl (nI_add i 1) (by decide) rfl ?_
            refine j_goto hg (tgt := 2) dM_sumOf_52 (by decide) ?_
            refine j_pick [1, 2, 3, 0] (lv' := [(0, .ref h), (1, .ref rr), (2, .int (nI m)), (3, .int (nI (i + 1)))]) rfl ?_
            exact ih (i + 1) (by omega)
      · skip
        refine j_bipush hg (v := 15) dM_sumOf_23 (by decide) ?_
        refine j_goto hg (tgt := 47) dM_sumOf_25 (by decide) ?_
        refine j_topi (show (15 : Int32) = rmask i from by unfold rmask; rw [if_pos (by omega)]) ?_
        refine j_iand hg (v := (by_ i) &&& (rmask i)) dM_sumOf_47 rfl ?_
        refine j_iast hg (ws' := [ob h 4 [.ref mt, .int (nI tn), .ref mo, .int (nI on), .ref mk, .ref mn, .ref mr, .int (nI rc), .ref mh, .ref mw, .ref mi, .ref mv, .ref mb, .ref ms, .ref mu, .ref mp, .ref mc, .ref mx, .ref mg, .ref ma, .int (nI tx)], aI E mc 16 (upd (rF y.1 by_ i) i ((by_ i) &&& (rmask i))), aI E mu 17 y.2.1, aI E mp 35 y.2.2.1, aI E ma 19 y.2.2.2.1, aB E mg 16 y.2.2.2.2, aB E mx 864 txt, aB E rr bn by_]) 1 i rfl rfl (by omega) (by omega) rfl dM_sumOf_48 ?_
        refine j_iinc hg (kq := 3) (v := nI (i + 1)) (lv' := [(3, .int (nI (i + 1))), (0, .ref h), (1, .ref rr), (2, .int (nI m))]) dM_sumOf_49 rfl (nI_add i 1) (by decide) rfl ?_
        refine j_goto hg (tgt := 2) dM_sumOf_52 (by decide) ?_
        refine j_pick [1, 2, 3, 0] (lv' := [(0, .ref h), (1, .ref rr), (2, .int (nI m)), (3, .int (nI (i + 1)))]) rfl ?_
        exact ih (i + 1) (by omega)
  exact loop (16) 0 (by omega)
