/-! Poly1305 of the class. -/
theorem nI_sba (a b c : Nat) (h : b ≤ a + c) : nI a - nI b + nI c = nI (a + c - b) := by
  rw [← pk_sub h, ← nI_add, Int32.sub_eq_add_neg, Int32.sub_eq_add_neg, Int32.add_assoc, Int32.add_comm (-nI b), Int32.add_assoc]
theorem nmin {a b : Nat} (ha : a < 2147483648) (hb : b < 2147483648) : (if nI b < nI a then nI b else nI a) = nI (min a b) := by
  by_cases h : b < a
  · rw [if_pos ((nI_ltI hb ha).mpr h), Nat.min_eq_right (Nat.le_of_lt h)]
  · rw [if_neg (fun z => h ((nI_ltI hb ha).mp z)), Nat.min_eq_left (Nat.not_lt.mp h)]
theorem u263 : ∀ i : Nat, i < 5 → ushr (nI (26 * i)) 3 = nI (26 * i / 8) := by decide
def filB (f : Nat → Int32) (v : Int32) : Nat → Nat → Int32
  | 0 => f
  | i + 1 => upd (filB f v i) i v
def bpart (b : Nat → Int32) (i : Nat) : Int64 := lushr ((rl b (26 * i / 8)).toInt64 &&& 4294967295) (nI (26 * i) &&& 7) &&& 67108863
def clamp3 (b : Nat → Int32) : Nat → Nat → Int32
  | 0 => b
  | i + 1 => upd (clamp3 b i) (3 + 4 * i) (sB (clamp3 b i (3 + 4 * i) &&& 15))
def clamp4 (b : Nat → Int32) : Nat → Nat → Int32
  | 0 => b
  | i + 1 => upd (clamp4 b i) (4 + 4 * i) (sB (clamp4 b i (4 + 4 * i) &&& (-4)))
def clampF (b : Nat → Int32) : Nat → Int32 := clamp4 (clamp3 b 4) 3
def parts5 (b : Nat → Int32) (f : Nat → Int64) : Nat → Nat → Int64
  | 0 => f
  | i + 1 => vp_updL (parts5 b f i) i (bpart b i)
def zeros5 (f : Nat → Int64) : Nat → Nat → Int64
  | 0 => f
  | i + 1 => vp_updL (zeros5 f i) i 0
def last4 (k f : Nat → Int32) : Nat → Nat → Int32
  | 0 => f
  | i + 1 => upd (last4 k f i) i (rl k (16 + 4 * i))
def addp (b : Nat → Int32) (t : Nat → Int64) : Nat → Nat → Int64
  | 0 => t
  | i + 1 => vp_updL (addp b t i) i (addp b t i i + bpart b i)
def mulS (t r : Nat → Int64) (i : Nat) : Nat → Int64
  | 0 => 0
  | j + 1 => mulS t r i j + t j * r (i - j)
def mulW (t r : Nat → Int64) (i : Nat) : Nat → Int64
  | 0 => 0
  | j + 1 => mulW t r i j + t (i + 1 + j) * r (i + 5 - (i + 1 + j))
def mulP (t r p : Nat → Int64) : Nat → Nat → Int64
  | 0 => p
  | i + 1 => vp_updL (mulP t r p i) i (mulS t r i (i + 1) + 5 * mulW t r i (4 - i))
def carS (t : Nat → Int64) : Nat → Int64 × (Nat → Int64)
  | 0 => (0, t)
  | i + 1 => (lushr ((carS t i).2 i + (carS t i).1) 26, vp_updL (carS t i).2 i (((carS t i).2 i + (carS t i).1) &&& 67108863))
def car (t : Nat → Int64) : Nat → Int64 := vp_updL (carS t 5).2 0 ((carS t 5).2 0 + 5 * (carS t 5).1)
def tpO (t : Nat → Int64) : Nat → Int64
  | 0 => 5
  | i + 1 => lushr (t i + tpO t i) 26
def tpP (t p : Nat → Int64) : Nat → Nat → Int64
  | 0 => p
  | i + 1 => vp_updL (tpP t p i) i ((t i + tpO t i) &&& 67108863)
def tpT (t p : Nat → Int64) : Nat → Int64 := if lg_cmp (tpO t 5) 0 = 0 then t else va_cpy (tpP t p 5) t 0 0 5
def mulT (t r p : Nat → Int64) : Nat → Int64 := car (car (va_cpy (mulP t r p 5) t 0 0 5))
/-- total, product, block -/
abbrev TPB : Type := (Nat → Int64) × (Nat → Int64) × (Nat → Int32)
def blkF (b row : Nat → Int32) (fr sz one : Nat) : Nat → Int32 := upd (va_cpy row (filB b 0 17) fr 0 sz) one 1
def abk0 (r : Nat → Int64) (x : TPB) (row : Nat → Int32) (fr sz one : Nat) : TPB :=
  (mulT (addp (blkF x.2.2 row fr sz one) x.1 5) r x.2.1, mulP (addp (blkF x.2.2 row fr sz one) x.1 5) r x.2.1 5, blkF x.2.2 row fr sz one)
noncomputable def abkF : (Nat → Int64) → TPB → (Nat → Int32) → Nat → Nat → Nat → TPB := Classical.choose (⟨abk0, rfl⟩ : ∃ F : (Nat → Int64) → TPB → (Nat → Int32) → Nat → Nat → Nat → TPB, F = abk0)
theorem abkF_eq (r : Nat → Int64) (x : TPB) (row : Nat → Int32) (fr sz one : Nat) : abkF r x row fr sz one = abk0 r x row fr sz one := by
  have h : abkF = abk0 := Classical.choose_spec (⟨abk0, rfl⟩ : ∃ F : (Nat → Int64) → TPB → (Nat → Int32) → Nat → Nat → Nat → TPB, F = abk0)
  rw [h]
noncomputable def paddF (r : Nat → Int64) (x : TPB) (row : Nat → Int32) (fr m : Nat) : Nat → TPB
  | 0 => x
  | i + 1 => abkF r (paddF r x row fr m i) row (fr + 16 * i) (min 16 (m - 16 * i)) (min 16 (m - 16 * i))
noncomputable def ppadF (r : Nat → Int64) (x : TPB) (row : Nat → Int32) (fr m : Nat) : Nat → TPB
  | 0 => x
  | i + 1 => abkF r (ppadF r x row fr m i) row (fr + 16 * i) (min 16 (m - 16 * i)) 16
def words4 (t w : Nat → Int64) : Nat → Int64 := vp_updL (vp_updL (vp_updL (vp_updL w 0 (t 0 ||| lshl (t 1) 26)) 1 (lushr (t 1) 6 ||| lshl (t 2) 20)) 2 (lushr (t 2) 12 ||| lshl (t 3) 14)) 3 (lushr (t 3) 18 ||| lshl (t 4) 8)
def foS (w : Nat → Int64) (la row : Nat → Int32) (at_ : Nat) : Nat → Int64 × (Nat → Int32)
  | 0 => (0, row)
  | i + 1 => (lushr ((foS w la row at_ i).1 + ((w i &&& 4294967295) + ((la i).toInt64 &&& 4294967295))) 32, wl (foS w la row at_ i).2 (at_ + 4 * i) ((foS w la row at_ i).1 + ((w i &&& 4294967295) + ((la i).toInt64 &&& 4294967295))).toInt32)
def finT (t p : Nat → Int64) : Nat → Int64 := tpT (car t) p

def rm_A_fill : Room := { frames := 0, cells := 0, slots := 0, locals := 0 }
set_option maxHeartbeats 1000000 in
set_option maxRecDepth 100000 in
theorem c_A_fill (l : Launch) (E : Ev) (a n : Nat) (f : Nat → Int32) (v : Int32) (hv : vp_nar .byte v = v) (h2 : n < 2147483648) : MC E l yA_fill (cT yA_fill cA_fill 4 none) rm_A_fill [.ref a, .int v] [aB E a n f] Unit (fun _ => True) (fun _ => none) (fun _ => [aB E a n (filB f v n)]) := by
  refine MC.of (cc := cA_fill) (nL := 4) (ret := none) (by decide) rfl cT_in (Nat.le_of_ble_eq_true rfl) (fun g hg hR => ?_)
  show J E 4 g [aB E a n f] [(0, .ref a), (1, .int v)] 0 0 0 []
  refine j_iconst hg (v := 0) dA_fill_0 (by decide) ?_
  refine j_istore_n hg (lv' := [(2, .int 0), (0, .ref a), (1, .int v)]) dA_fill_1 rfl (by decide) rfl ?_
  refine j_aload_n hg 1 dA_fill_2 rfl rfl ?_
  refine j_alenB hg (v := nI n) 0 rfl rfl dA_fill_3 ?_
  refine j_istore_n hg (lv' := [(3, .int (nI n)), (2, .int 0), (0, .ref a), (1, .int v)]) dA_fill_4 rfl (by decide) rfl ?_
  refine j_pick [2, 3, 1, 0] (lv' := [(0, .ref a), (1, .int v), (2, .int 0), (3, .int (nI n))]) rfl ?_
  have loop : ∀ (zk i : Nat), i + zk = n → J E 4 g [aB E a n (filB f v i)] [(0, .ref a), (1, .int v), (2, .int (nI i)), (3, .int (nI n))] 0 0 5 [] := by
    intro zk
    induction zk with
    | zero =>
      intro i  hi
      obtain rfl : n = i := by omega
      refine j_iload_n hg 2 dA_fill_5 rfl rfl ?_
      refine j_iload_n hg 3 dA_fill_6 rfl rfl ?_
      refine j_nge_t hg (tgt := 20) n n rfl rfl (by omega) (by omega) (by omega) dA_fill_7 (by decide) ?_
      exact j_vret hg hR () trivial rfl [0] rfl (by decide) (by decide) (by decide) dA_fill_20
    | succ zk ih =>
      intro i  hi
      refine j_iload_n hg 2 dA_fill_5 rfl rfl ?_
      refine j_iload_n hg 3 dA_fill_6 rfl rfl ?_
      refine j_nge_f hg (tgt := 20) i n rfl rfl (by omega) (by omega) (by omega) dA_fill_7 (by decide) ?_
      refine j_aload_n hg 0 dA_fill_10 rfl rfl ?_
      refine j_iload_n hg 2 dA_fill_11 rfl rfl ?_
      refine j_iload_n hg 1 dA_fill_12 rfl rfl ?_
      refine j_bast hg (ws' := [aB E a n (upd (filB f v i) i v)]) 0 i rfl rfl (by omega) (by omega) hv rfl dA_fill_13 ?_
      refine j_iinc hg (kq := 2) (v := nI (i + 1)) (lv' := [(2, .int (nI (i + 1))), (0, .ref a), (1, .int v), (3, .int (nI n))]) dA_fill_14 rfl (nI_add i 1) (by decide) rfl ?_
      refine j_goto hg (tgt := 5) dA_fill_17 (by decide) ?_
      refine j_pick [1, 2, 0, 3] (lv' := [(0, .ref a), (1, .int v), (2, .int (nI (i + 1))), (3, .int (nI n))]) rfl ?_
      exact ih (i + 1) (by omega)
  exact loop (n) 0 (by omega)

def rm_P_carry : Room := { frames := 0, cells := 0, slots := 0, locals := 0 }
set_option maxHeartbeats 1000000 in
set_option maxRecDepth 100000 in
theorem c_P_carry (l : Launch) (E : Ev) (h a1 a2 a3 a4 a5 a6 : Nat) (t : Nat → Int64) : MC E l yP_carry (cT yP_carry cP_carry 6 none) rm_P_carry [.ref h] [ob h 1 [.ref a1, .ref a2, .ref a3, .ref a4, .ref a5, .ref a6], aL E a2 5 t] Unit (fun _ => True) (fun _ => none) (fun _ => [ob h 1 [.ref a1, .ref a2, .ref a3, .ref a4, .ref a5, .ref a6], aL E a2 5 (car t)]) := by
  refine MC.of (cc := cP_carry) (nL := 6) (ret := none) (by decide) rfl cT_in (Nat.le_of_ble_eq_true rfl) (fun g hg hR => ?_)
  show J E 6 g [ob h 1 [.ref a1, .ref a2, .ref a3, .ref a4, .ref a5, .ref a6], aL E a2 5 t] [(0, .ref h)] 0 0 0 []
  refine j_lconst hg (v := 0) dP_carry_0 (by decide) ?_
  refine j_lstore_n hg (lv' := [(1, .long 0), (0, .ref h)]) dP_carry_1 rfl (by decide) rfl ?_
  refine j_iconst hg (v := 0) dP_carry_2 (by decide) ?_
  refine j_istore_n hg (lv' := [(3, .int 0), (1, .long 0), (0, .ref h)]) dP_carry_3 rfl (by decide) rfl ?_
  refine j_pick [2, 1, 0] (lv' := [(0, .ref h), (1, .long 0), (3, .int 0)]) rfl ?_
  have loop : ∀ (zk i : Nat), i + zk = 5 → J E 6 g [ob h 1 [.ref a1, .ref a2, .ref a3, .ref a4, .ref a5, .ref a6], aL E a2 5 ((carS t i).2)] [(0, .ref h), (1, .long ((carS t i).1)), (3, .int (nI i))] 0 0 4 [] := by
    intro zk
    induction zk with
    | zero =>
      intro i  hi
      obtain rfl : 5 = i := by omega
      refine j_iload_n hg 2 dP_carry_4 rfl rfl ?_
      refine j_iconst hg (v := 5) dP_carry_5 (by decide) ?_
      refine j_nge_t hg (tgt := 43) 5 5 rfl rfl (by omega) (by omega) (by omega) dP_carry_6 (by decide) ?_
      refine j_aload_n hg 0 dP_carry_43 rfl rfl ?_
      refine j_get hg (C := RX1) (T := TX1) (N := 6) inX1 0 rfl rfl 1 (by decide) m39 rfl dP_carry_44 ?_
      refine j_iconst hg (v := 0) dP_carry_47 (by decide) ?_
      refine j_dup2_11 hg dP_carry_48 rfl rfl ?_
      refine j_lald hg (v := ((carS t 5).2) 0) 1 0 rfl rfl (by omega) (by omega) rfl dP_carry_49 ?_
      refine j_ldc2 hg (v := 5) m226 dP_carry_50 ?_
      refine j_lload_n hg 1 dP_carry_53 rfl rfl ?_
      refine j_lmul hg (v := 5 * ((carS t 5).1)) dP_carry_54 rfl ?_
      refine j_ladd hg (v := (((carS t 5).2) 0) + (5 * ((carS t 5).1))) dP_carry_55 rfl ?_
      refine j_last hg (ws' := [ob h 1 [.ref a1, .ref a2, .ref a3, .ref a4, .ref a5, .ref a6], aL E a2 5 (vp_updL ((carS t 5).2) 0 ((((carS t 5).2) 0) + (5 * ((carS t 5).1))))]) 1 0 rfl rfl (by omega) (by omega) rfl dP_carry_56 ?_
      exact j_vret hg hR () trivial rfl [0, 1] rfl (by decide) (by decide) (by decide) dP_carry_57
    | succ zk ih =>
      intro i  hi
      refine j_iload_n hg 2 dP_carry_4 rfl rfl ?_
      refine j_iconst hg (v := 5) dP_carry_5 (by decide) ?_
      refine j_nge_f hg (tgt := 43) i 5 rfl rfl (by omega) (by omega) (by omega) dP_carry_6 (by decide) ?_
      refine j_aload_n hg 0 dP_carry_9 rfl rfl ?_
      refine j_get hg (C := RX1) (T := TX1) (N := 6) inX1 0 rfl rfl 1 (by decide) m39 rfl dP_carry_10 ?_
      refine j_iload_n hg 2 dP_carry_13 rfl rfl ?_
      refine j_lald hg (v := ((carS t i).2) i) 1 i rfl rfl (by omega) (by omega) rfl dP_carry_14 ?_
      refine j_lload_n hg 1 dP_carry_15 rfl rfl ?_
      refine j_ladd hg (v := (((carS t i).2) i) + ((carS t i).1)) dP_carry_16 rfl ?_
      refine j_lstore hg (lv' := [(4, .long ((((carS t i).2) i) + ((carS t i).1))), (0, .ref h), (1, .long ((carS t i).1)), (3, .int (nI i))]) dP_carry_17 (by decide) rfl ?_
      refine j_aload_n hg 1 dP_carry_19 rfl rfl ?_
      refine j_get hg (C := RX1) (T := TX1) (N := 6) inX1 0 rfl rfl 1 (by decide) m39 rfl dP_carry_20 ?_
      refine j_iload_n hg 3 dP_carry_23 rfl rfl ?_
      refine j_lload hg 0 dP_carry_24 rfl ?_
      refine j_ldc2 hg (v := 67108863) m207 dP_carry_26 ?_
      refine j_land hg (v := ((((carS t i).2) i) + ((carS t i).1)) &&& 67108863) dP_carry_29 rfl ?_
      refine j_last hg (ws' := [ob h 1 [.ref a1, .ref a2, .ref a3, .ref a4, .ref a5, .ref a6], aL E a2 5 (vp_updL ((carS t i).2) i (((((carS t i).2) i) + ((carS t i).1)) &&& 67108863))]) 1 i rfl rfl (by omega) (by omega) rfl dP_carry_30 ?_
      refine j_lload hg 0 dP_carry_31 rfl ?_
      refine j_bipush hg (v := 26) dP_carry_33 (by decide) ?_
      refine j_lushr hg (v := lushr ((((carS t i).2) i) + ((carS t i).1)) 26) dP_carry_35 rfl ?_
      refine j_lstore_n hg (lv' := [(1, .long (lushr ((((carS t i).2) i) + ((carS t i).1)) 26)), (4, .long ((((carS t i).2) i) + ((carS t i).1))), (0, .ref h), (3, .int (nI i))]) dP_carry_36 rfl (by decide) rfl ?_
      refine j_iinc hg (kq := 3) (v := nI (i + 1)) (lv' := [(3, .int (nI (i + 1))), (1, .long (lushr ((((carS t i).2) i) + ((carS t i).1)) 26)), (4, .long ((((carS t i).2) i) + ((carS t i).1))), (0, .ref h)]) dP_carry_37 rfl (nI_add i 1) (by decide) rfl ?_
      refine j_goto hg (tgt := 4) dP_carry_40 (by decide) ?_
      refine j_pick [3, 1, 0] (lv' := [(0, .ref h), (1, .long (lushr ((((carS t i).2) i) + ((carS t i).1)) 26)), (3, .int (nI (i + 1)))]) rfl ?_
      exact ih (i + 1) (by omega)
  exact loop (5) 0 (by omega)

def rm_P_takePrimeOff : Room := { frames := 1, cells := 0, slots := 0, locals := 18 }
set_option maxHeartbeats 1000000 in
set_option maxRecDepth 100000 in
theorem c_P_takePrimeOff (l : Launch) (E : Ev) (h a1 a2 a3 a4 a5 a6 : Nat) (t p : Nat → Int64) : MC E l yP_takePrimeOff (cT yP_takePrimeOff cP_takePrimeOff 6 none) rm_P_takePrimeOff [.ref h] [ob h 1 [.ref a1, .ref a2, .ref a3, .ref a4, .ref a5, .ref a6], aL E a2 5 t, aL E a3 5 p] Unit (fun _ => True) (fun _ => none) (fun _ => [ob h 1 [.ref a1, .ref a2, .ref a3, .ref a4, .ref a5, .ref a6], aL E a2 5 (tpT t p), aL E a3 5 (tpP t p 5)]) := by
  refine MC.of (cc := cP_takePrimeOff) (nL := 6) (ret := none) (by decide) rfl cT_in (Nat.le_of_ble_eq_true rfl) (fun g hg hR => ?_)
  show J E 6 g [ob h 1 [.ref a1, .ref a2, .ref a3, .ref a4, .ref a5, .ref a6], aL E a2 5 t, aL E a3 5 p] [(0, .ref h)] 0 0 0 []
  refine j_ldc2 hg (v := 5) m226 dP_takePrimeOff_0 ?_
  refine j_lstore_n hg (lv' := [(1, .long 5), (0, .ref h)]) dP_takePrimeOff_3 rfl (by decide) rfl ?_
  refine j_iconst hg (v := 0) dP_takePrimeOff_4 (by decide) ?_
  refine j_istore_n hg (lv' := [(3, .int 0), (1, .long 5), (0, .ref h)]) dP_takePrimeOff_5 rfl (by decide) rfl ?_
  refine j_pick [2, 1, 0] (lv' := [(0, .ref h), (1, .long 5), (3, .int 0)]) rfl ?_
  have loop : ∀ (zk i : Nat), i + zk = 5 → J E 6 g [ob h 1 [.ref a1, .ref a2, .ref a3, .ref a4, .ref a5, .ref a6], aL E a2 5 t, aL E a3 5 (tpP t p i)] [(0, .ref h), (1, .long (tpO t i)), (3, .int (nI i))] 0 0 6 [] := by
    intro zk
    induction zk with
    | zero =>
      intro i  hi
      obtain rfl : 5 = i := by omega
      refine j_iload_n hg 2 dP_takePrimeOff_6 rfl rfl ?_
      refine j_iconst hg (v := 5) dP_takePrimeOff_7 (by decide) ?_
      refine j_nge_t hg (tgt := 45) 5 5 rfl rfl (by omega) (by omega) (by omega) dP_takePrimeOff_8 (by decide) ?_
      refine j_lload_n hg 1 dP_takePrimeOff_45 rfl rfl ?_
      refine j_lconst hg (v := 0) dP_takePrimeOff_46 (by decide) ?_
      refine j_lcmp hg (v := lg_cmp (tpO t 5) 0) dP_takePrimeOff_47 rfl ?_
      refine j_if_eq hg (tgt := 65) dP_takePrimeOff_48 (by decide) (fun hc => ?_) (fun hc => ?_)
      · skip
        have e : tpT t p = t := if_pos hc
        rw [e] at hR
        exact j_vret hg hR () trivial rfl [0, 1, 2] rfl (by decide) (by decide) (by decide) dP_takePrimeOff_65
      · skip
        have e : tpT t p = va_cpy (tpP t p 5) t 0 0 5 := if_neg hc
        rw [e] at hR
        refine j_aload_n hg 0 dP_takePrimeOff_51 rfl rfl ?_
        refine j_get hg (C := RX1) (T := TX1) (N := 6) inX1 0 rfl rfl 2 (by decide) m40 rfl dP_takePrimeOff_52 ?_
        refine j_iconst hg (v := 0) dP_takePrimeOff_55 (by decide) ?_
        refine j_aload_n hg 0 dP_takePrimeOff_56 rfl rfl ?_
        refine j_get hg (C := RX1) (T := TX1) (N := 6) inX1 0 rfl rfl 1 (by decide) m39 rfl dP_takePrimeOff_57 ?_
        refine j_iconst hg (v := 0) dP_takePrimeOff_60 (by decide) ?_
        refine j_iconst hg (v := 5) dP_takePrimeOff_61 (by decide) ?_
        refine j_copyL hg (ws' := [ob h 1 [.ref a1, .ref a2, .ref a3, .ref a4, .ref a5, .ref a6], aL E a2 5 (va_cpy (tpP t p 5) t 0 0 5), aL E a3 5 (tpP t p 5)]) 2 1 0 0 5 ⟨m196, m141, m140, m6⟩ rfl rfl rfl rfl rfl (by omega) (by omega) (by omega) (by omega) (Nat.le_of_ble_eq_true rfl) (Nat.le_of_ble_eq_true rfl) rfl dP_takePrimeOff_62 ?_
        exact j_vret hg hR () trivial rfl [0, 1, 2] rfl (by decide) (by decide) (by decide) dP_takePrimeOff_65
    | succ zk ih =>
      intro i  hi
      refine j_iload_n hg 2 dP_takePrimeOff_6 rfl rfl ?_
      refine j_iconst hg (v := 5) dP_takePrimeOff_7 (by decide) ?_
      refine j_nge_f hg (tgt := 45) i 5 rfl rfl (by omega) (by omega) (by omega) dP_takePrimeOff_8 (by decide) ?_
      refine j_aload_n hg 0 dP_takePrimeOff_11 rfl rfl ?_
      refine j_get hg (C := RX1) (T := TX1) (N := 6) inX1 0 rfl rfl 1 (by decide) m39 rfl dP_takePrimeOff_12 ?_
      refine j_iload_n hg 2 dP_takePrimeOff_15 rfl rfl ?_
      refine j_lald hg (v := t i) 1 i rfl rfl (by omega) (by omega) rfl dP_takePrimeOff_16 ?_
      refine j_lload_n hg 1 dP_takePrimeOff_17 rfl rfl ?_
      refine j_ladd hg (v := (t i) + (tpO t i)) dP_takePrimeOff_18 rfl ?_
      refine j_lstore hg (lv' := [(4, .long ((t i) + (tpO t i))), (0, .ref h), (1, .long (tpO t i)), (3, .int (nI i))]) dP_takePrimeOff_19 (by decide) rfl ?_
      refine j_aload_n hg 1 dP_takePrimeOff_21 rfl rfl ?_
      refine j_get hg (C := RX1) (T := TX1) (N := 6) inX1 0 rfl rfl 2 (by decide) m40 rfl dP_takePrimeOff_22 ?_
      refine j_iload_n hg 3 dP_takePrimeOff_25 rfl rfl ?_
      refine j_lload hg 0 dP_takePrimeOff_26 rfl ?_
      refine j_ldc2 hg (v := 67108863) m207 dP_takePrimeOff_28 ?_
      refine j_land hg (v := ((t i) + (tpO t i)) &&& 67108863) dP_takePrimeOff_31 rfl ?_
      refine j_last hg (ws' := [ob h 1 [.ref a1, .ref a2, .ref a3, .ref a4, .ref a5, .ref a6], aL E a2 5 t, aL E a3 5 (vp_updL (tpP t p i) i (((t i) + (tpO t i)) &&& 67108863))]) 2 i rfl rfl (by omega) (by omega) rfl dP_takePrimeOff_32 ?_
      refine j_lload hg 0 dP_takePrimeOff_33 rfl ?_
      refine j_bipush hg (v := 26) dP_takePrimeOff_35 (by decide) ?_
      refine j_lushr hg (v := lushr ((t i) + (tpO t i)) 26) dP_takePrimeOff_37 rfl ?_
      refine j_lstore_n hg (lv' := [(1, .long (lushr ((t i) + (tpO t i)) 26)), (4, .long ((t i) + (tpO t i))), (0, .ref h), (3, .int (nI i))]) dP_takePrimeOff_38 rfl (by decide) rfl ?_
      refine j_iinc hg (kq := 3) (v := nI (i + 1)) (lv' := [(3, .int (nI (i + 1))), (1, .long (lushr ((t i) + (tpO t i)) 26)), (4, .long ((t i) + (tpO t i))), (0, .ref h)]) dP_takePrimeOff_39 rfl (nI_add i 1) (by decide) rfl ?_
      refine j_goto hg (tgt := 6) dP_takePrimeOff_42 (by decide) ?_
      refine j_pick [3, 1, 0] (lv' := [(0, .ref h), (1, .long (lushr ((t i) + (tpO t i)) 26)), (3, .int (nI (i + 1)))]) rfl ?_
      exact ih (i + 1) (by omega)
  exact loop (5) 0 (by omega)

def rm_P_clampBlock : Room := { frames := 0, cells := 0, slots := 0, locals := 0 }
set_option maxHeartbeats 1000000 in
set_option maxRecDepth 100000 in
theorem c_P_clampBlock (l : Launch) (E : Ev) (h a1 a2 a3 a4 a5 a6 : Nat) (b : Nat → Int32) : MC E l yP_clampBlock (cT yP_clampBlock cP_clampBlock 2 none) rm_P_clampBlock [.ref h] [ob h 1 [.ref a1, .ref a2, .ref a3, .ref a4, .ref a5, .ref a6], aB E a6 17 b] Unit (fun _ => True) (fun _ => none) (fun _ => [ob h 1 [.ref a1, .ref a2, .ref a3, .ref a4, .ref a5, .ref a6], aB E a6 17 (clampF b)]) := by
  refine MC.of (cc := cP_clampBlock) (nL := 2) (ret := none) (by decide) rfl cT_in (Nat.le_of_ble_eq_true rfl) (fun g hg hR => ?_)
  show J E 2 g [ob h 1 [.ref a1, .ref a2, .ref a3, .ref a4, .ref a5, .ref a6], aB E a6 17 b] [(0, .ref h)] 0 0 0 []
  refine j_iconst hg (v := 3) dP_clampBlock_0 (by decide) ?_
  refine j_istore_n hg (lv' := [(1, .int 3), (0, .ref h)]) dP_clampBlock_1 rfl (by decide) rfl ?_
  refine j_pick [1, 0] (lv' := [(0, .ref h), (1, .int 3)]) rfl ?_
  have loop : ∀ (zk i : Nat), i + zk = 4 → J E 2 g [ob h 1 [.ref a1, .ref a2, .ref a3, .ref a4, .ref a5, .ref a6], aB E a6 17 (clamp3 b i)] [(0, .ref h), (1, .int (nI (3 + 4 * i)))] 0 0 2 [] := by
    intro zk
    induction zk with
    | zero =>
      intro i  hi
      obtain rfl : 4 = i := by omega
      refine j_iload_n hg 1 dP_clampBlock_2 rfl rfl ?_
      refine j_bipush hg (v := 16) dP_clampBlock_3 (by decide) ?_
      refine j_nge_t hg (tgt := 26) (3 + 4 * 4) 16 rfl rfl (by omega) (by omega) (by omega) dP_clampBlock_5 (by decide) ?_
      refine j_iconst hg (v := 4) dP_clampBlock_26 (by decide) ?_
      refine j_istore_n hg (lv' := [(1, .int 4), (0, .ref h)]) dP_clampBlock_27 rfl (by decide) rfl ?_
      refine j_pick [1, 0] (lv' := [(0, .ref h), (1, .int 4)]) rfl ?_
      have loop2 : ∀ (zk i : Nat), i + zk = 3 → J E 2 g [ob h 1 [.ref a1, .ref a2, .ref a3, .ref a4, .ref a5, .ref a6], aB E a6 17 (clamp4 (clamp3 b 4) i)] [(0, .ref h), (1, .int (nI (4 + 4 * i)))] 0 0 28 [] := by
        intro zk
        induction zk with
        | zero =>
          intro i  hi
          obtain rfl : 3 = i := by omega
          refine j_iload_n hg 1 dP_clampBlock_28 rfl rfl ?_
          refine j_bipush hg (v := 16) dP_clampBlock_29 (by decide) ?_
          refine j_nge_t hg (tgt := 52) (4 + 4 * 3) 16 rfl rfl (by omega) (by omega) (by omega) dP_clampBlock_31 (by decide) ?_
          exact j_vret hg hR () trivial rfl [0, 1] rfl (by decide) (by decide) (by decide) dP_clampBlock_52
        | succ zk ih =>
          intro i  hi
          refine j_iload_n hg 1 dP_clampBlock_28 rfl rfl ?_
          refine j_bipush hg (v := 16) dP_clampBlock_29 (by decide) ?_
          refine j_nge_f hg (tgt := 52) (4 + 4 * i) 16 rfl rfl (by omega) (by omega) (by omega) dP_clampBlock_31 (by decide) ?_
          refine j_aload_n hg 0 dP_clampBlock_34 rfl rfl ?_
          refine j_get hg (C := RX1) (T := TX1) (N := 6) inX1 0 rfl rfl 5 (by decide) m43 rfl dP_clampBlock_35 ?_
          refine j_iload_n hg 1 dP_clampBlock_38 rfl rfl ?_
          refine j_dup2_11 hg dP_clampBlock_39 rfl rfl ?_
          refine j_bald hg (v := (clamp4 (clamp3 b 4) i) (4 + 4 * i)) 1 (4 + 4 * i) rfl rfl (by omega) (by omega) rfl dP_clampBlock_40 ?_
          refine j_bipush hg (v := -4) dP_clampBlock_41 (by decide) ?_
          refine j_iand hg (v := ((clamp4 (clamp3 b 4) i) (4 + 4 * i)) &&& (-4)) dP_clampBlock_43 rfl ?_
          refine j_i2b hg (v := sB (((clamp4 (clamp3 b 4) i) (4 + 4 * i)) &&& (-4))) dP_clampBlock_44 rfl ?_
          refine j_bast hg (ws' := [ob h 1 [.ref a1, .ref a2, .ref a3, .ref a4, .ref a5, .ref a6], aB E a6 17 (upd (clamp4 (clamp3 b 4) i) (4 + 4 * i) (sB (((clamp4 (clamp3 b 4) i) (4 + 4 * i)) &&& (-4))))]) 1 (4 + 4 * i) rfl rfl (by omega) (by omega) (sB_nar _) rfl dP_clampBlock_45 ?_
          refine j_iinc hg (kq := 1) (v := nI (4 + 4 * (i + 1))) (lv' := [(1, .int (nI (4 + 4 * (i + 1)))), (0, .ref h)]) dP_clampBlock_46 rfl (Eq.trans (nI_add (4 + 4 * i) 4) (congrArg nI (by omega))) (by decide) rfl ?_
          refine j_goto hg (tgt := 28) dP_clampBlock_49 (by decide) ?_
          refine j_pick [1, 0] (lv' := [(0, .ref h), (1, .int (nI (4 + 4 * (i + 1))))]) rfl ?_
          exact ih (i + 1) (by omega)
      exact loop2 (3) 0 (by omega)
    | succ zk ih =>
      intro i  hi
      refine j_iload_n hg 1 dP_clampBlock_2 rfl rfl ?_
      refine j_bipush hg (v := 16) dP_clampBlock_3 (by decide) ?_
      refine j_nge_f hg (tgt := 26) (3 + 4 * i) 16 rfl rfl (by omega) (by omega) (by omega) dP_clampBlock_5 (by decide) ?_
      refine j_aload_n hg 0 dP_clampBlock_8 rfl rfl ?_
      refine j_get hg (C := RX1) (T := TX1) (N := 6) inX1 0 rfl rfl 5 (by decide) m43 rfl dP_clampBlock_9 ?_
      refine j_iload_n hg 1 dP_clampBlock_12 rfl rfl ?_
      refine j_dup2_11 hg dP_clampBlock_13 rfl rfl ?_
      refine j_bald hg (v := (clamp3 b i) (3 + 4 * i)) 1 (3 + 4 * i) rfl rfl (by omega) (by omega) rfl dP_clampBlock_14 ?_
      refine j_bipush hg (v := 15) dP_clampBlock_15 (by decide) ?_
      refine j_iand hg (v := ((clamp3 b i) (3 + 4 * i)) &&& 15) dP_clampBlock_17 rfl ?_
      refine j_i2b hg (v := sB (((clamp3 b i) (3 + 4 * i)) &&& 15)) dP_clampBlock_18 rfl ?_
      refine j_bast hg (ws' := [ob h 1 [.ref a1, .ref a2, .ref a3, .ref a4, .ref a5, .ref a6], aB E a6 17 (upd (clamp3 b i) (3 + 4 * i) (sB (((clamp3 b i) (3 + 4 * i)) &&& 15)))]) 1 (3 + 4 * i) rfl rfl (by omega) (by omega) (sB_nar _) rfl dP_clampBlock_19 ?_
      refine j_iinc hg (kq := 1) (v := nI (3 + 4 * (i + 1))) (lv' := [(1, .int (nI (3 + 4 * (i + 1)))), (0, .ref h)]) dP_clampBlock_20 rfl (Eq.trans (nI_add (3 + 4 * i) 4) (congrArg nI (by omega))) (by decide) rfl ?_
      refine j_goto hg (tgt := 2) dP_clampBlock_23 (by decide) ?_
      refine j_pick [1, 0] (lv' := [(0, .ref h), (1, .int (nI (3 + 4 * (i + 1))))]) rfl ?_
      exact ih (i + 1) (by omega)
  exact loop (4) 0 (by omega)

def rm_P_blockPart : Room := { frames := 1, cells := 0, slots := 0, locals := 21 }
set_option maxHeartbeats 1000000 in
set_option maxRecDepth 100000 in
theorem c_P_blockPart (l : Launch) (E : Ev) (h a1 a2 a3 a4 a5 a6 : Nat) (b : Nat → Int32) (i : Nat) (hi : i < 5) : MC E l yP_blockPart (cT yP_blockPart cP_blockPart 4 (some .long)) rm_P_blockPart [.ref h, .int (nI i)] [ob h 1 [.ref a1, .ref a2, .ref a3, .ref a4, .ref a5, .ref a6], aB E a6 17 b] Unit (fun _ => True) (fun _ => some (.long (bpart b i))) (fun _ => [ob h 1 [.ref a1, .ref a2, .ref a3, .ref a4, .ref a5, .ref a6], aB E a6 17 b]) := by
  refine MC.of (cc := cP_blockPart) (nL := 4) (ret := (some .long)) (by decide) rfl cT_in (Nat.le_of_ble_eq_true rfl) (fun g hg hR => ?_)
  show J E 4 g [ob h 1 [.ref a1, .ref a2, .ref a3, .ref a4, .ref a5, .ref a6], aB E a6 17 b] [(0, .ref h), (1, .int (nI i))] 0 0 0 []
  refine j_bipush hg (v := 26) dP_blockPart_0 (by decide) ?_
  refine j_iload_n hg 1 dP_blockPart_2 rfl rfl ?_
  refine j_imul hg (v := nI (26 * i)) dP_blockPart_3 (pk_mul 26 i) ?_
  refine j_istore_n hg (lv' := [(2, .int (nI (26 * i))), (0, .ref h), (1, .int (nI i))]) dP_blockPart_4 rfl (by decide) rfl ?_
  refine j_aload_n hg 1 dP_blockPart_5 rfl rfl ?_
  refine j_get hg (C := RX1) (T := TX1) (N := 6) inX1 0 rfl rfl 5 (by decide) m43 rfl dP_blockPart_6 ?_
  refine j_iload_n hg 0 dP_blockPart_9 rfl rfl ?_
  refine j_iconst hg (v := 3) dP_blockPart_10 (by decide) ?_
  refine j_iushr hg (v := ushr (nI (26 * i)) 3) dP_blockPart_11 rfl ?_
  refine j_topi (u263 i hi) ?_
  refine j_callSN hg (n := 2) (y := yS_readLowestFirst) (rm := rm_S_readLowestFirst) (Ws := (cT yS_readLowestFirst cS_readLowestFirst 2 (some .int))) (As := [.ref a6, .int (nI (26 * i / 8))]) (rest := []) (wr := [ob h 1 [.ref a1, .ref a2, .ref a3, .ref a4, .ref a5, .ref a6]]) (host := RX3) (c_S_readLowestFirst l E a6 17 b (26 * i / 8) (by omega) (by omega)) (gdT m168) rfl m1 (by decide +kernel) m167 (by decide +kernel) ⟨by decide, by decide⟩ rfl rfl (Nat.le_of_ble_eq_true rfl) ⟨by decide, by decide⟩ [1] [0] rfl rfl (by decide) (by decide) (by decide) dP_blockPart_12 (fun _ _ => ?_)
  show J E 4 g [ob h 1 [.ref a1, .ref a2, .ref a3, .ref a4, .ref a5, .ref a6], aB E a6 17 b] [(2, .int (nI (26 * i))), (0, .ref h), (1, .int (nI i))] 0 0 15 [.int (rl b (26 * i / 8))]
  refine j_istore_n hg (lv' := [(3, .int (rl b (26 * i / 8))), (2, .int (nI (26 * i))), (0, .ref h), (1, .int (nI i))]) dP_blockPart_15 rfl (by decide) rfl ?_
  refine j_iload_n hg 0 dP_blockPart_16 rfl rfl ?_
  refine j_i2l hg (v := (rl b (26 * i / 8)).toInt64) dP_blockPart_17 rfl ?_
  refine j_ldc2 hg (v := 4294967295) m206 dP_blockPart_18 ?_
  refine j_land hg (v := ((rl b (26 * i / 8)).toInt64) &&& 4294967295) dP_blockPart_21 rfl ?_
  refine j_iload_n hg 1 dP_blockPart_22 rfl rfl ?_
  refine j_bipush hg (v := 7) dP_blockPart_23 (by decide) ?_
  refine j_iand hg (v := (nI (26 * i)) &&& 7) dP_blockPart_25 rfl ?_
  refine j_lushr hg (v := lushr (((rl b (26 * i / 8)).toInt64) &&& 4294967295) ((nI (26 * i)) &&& 7)) dP_blockPart_26 rfl ?_
  refine j_ldc2 hg (v := 67108863) m207 dP_blockPart_27 ?_
  refine j_land hg (v := (lushr (((rl b (26 * i / 8)).toInt64) &&& 4294967295) ((nI (26 * i)) &&& 7)) &&& 67108863) dP_blockPart_30 rfl ?_
  exact j_lret hg hR () trivial rfl [0, 1] rfl (by decide) (by decide) (by decide) dP_blockPart_31

def rm_P_multiply : Room := { frames := 1, cells := 0, slots := 0, locals := 25 }
set_option maxHeartbeats 1000000 in
set_option maxRecDepth 100000 in
theorem c_P_multiply (l : Launch) (E : Ev) (h a1 a2 a3 a4 a5 a6 : Nat) (t r p : Nat → Int64) : MC E l yP_multiply (cT yP_multiply cP_multiply 7 none) rm_P_multiply [.ref h] [ob h 1 [.ref a1, .ref a2, .ref a3, .ref a4, .ref a5, .ref a6], aL E a1 5 r, aL E a2 5 t, aL E a3 5 p] Unit (fun _ => True) (fun _ => none) (fun _ => [ob h 1 [.ref a1, .ref a2, .ref a3, .ref a4, .ref a5, .ref a6], aL E a1 5 r, aL E a2 5 (mulT t r p), aL E a3 5 (mulP t r p 5)]) := by
  refine MC.of (cc := cP_multiply) (nL := 7) (ret := none) (by decide) rfl cT_in (Nat.le_of_ble_eq_true rfl) (fun g hg hR => ?_)
  show J E 7 g [ob h 1 [.ref a1, .ref a2, .ref a3, .ref a4, .ref a5, .ref a6], aL E a1 5 r, aL E a2 5 t, aL E a3 5 p] [(0, .ref h)] 0 0 0 []
  refine j_iconst hg (v := 0) dP_multiply_0 (by decide) ?_
  refine j_istore_n hg (lv' := [(1, .int 0), (0, .ref h)]) dP_multiply_1 rfl (by decide) rfl ?_
  refine j_pick [1, 0] (lv' := [(0, .ref h), (1, .int 0)]) rfl ?_
  have loop : ∀ (zk i : Nat), i + zk = 5 → J E 7 g [ob h 1 [.ref a1, .ref a2, .ref a3, .ref a4, .ref a5, .ref a6], aL E a1 5 r, aL E a2 5 t, aL E a3 5 (mulP t r p i)] [(0, .ref h), (1, .int (nI i))] 0 0 2 [] := by
    intro zk
    induction zk with
    | zero =>
      intro i  hi
      obtain rfl : 5 = i := by omega
      refine j_iload_n hg 1 dP_multiply_2 rfl rfl ?_
      refine j_iconst hg (v := 5) dP_multiply_3 (by decide) ?_
      refine j_nge_t hg (tgt := 108) 5 5 rfl rfl (by omega) (by omega) (by omega) dP_multiply_4 (by decide) ?_
      refine j_aload_n hg 0 dP_multiply_108 rfl rfl ?_
      refine j_get hg (C := RX1) (T := TX1) (N := 6) inX1 0 rfl rfl 2 (by decide) m40 rfl dP_multiply_109 ?_
      refine j_iconst hg (v := 0) dP_multiply_112 (by decide) ?_
      refine j_aload_n hg 0 dP_multiply_113 rfl rfl ?_
      refine j_get hg (C := RX1) (T := TX1) (N := 6) inX1 0 rfl rfl 1 (by decide) m39 rfl dP_multiply_114 ?_
      refine j_iconst hg (v := 0) dP_multiply_117 (by decide) ?_
      refine j_iconst hg (v := 5) dP_multiply_118 (by decide) ?_
      refine j_copyL hg (ws' := [ob h 1 [.ref a1, .ref a2, .ref a3, .ref a4, .ref a5, .ref a6], aL E a1 5 r, aL E a2 5 (va_cpy (mulP t r p 5) t 0 0 5), aL E a3 5 (mulP t r p 5)]) 3 2 0 0 5 ⟨m196, m141, m140, m6⟩ rfl rfl rfl rfl rfl (by omega) (by omega) (by omega) (by omega) (Nat.le_of_ble_eq_true rfl) (Nat.le_of_ble_eq_true rfl) rfl dP_multiply_119 ?_
      refine j_aload_n hg 0 dP_multiply_122 rfl rfl ?_
      refine j_callV hg (n := 0) (y := yP_carry) (rm := rm_P_carry) (Ws := (cT yP_carry cP_carry 6 none)) (As := []) (rest := []) (wr := [aL E a1 5 r, aL E a3 5 (mulP t r p 5)]) 0 rfl rfl (c_P_carry l E h a1 a2 a3 a4 a5 a6 (va_cpy (mulP t r p 5) t 0 0 5)) (gdV m227 m229 ms9 m3 m230) rfl (by decide +kernel) ⟨by decide, by decide⟩ rfl rfl (Nat.le_of_ble_eq_true rfl) ⟨by decide, by decide⟩ [0, 2] [1, 3] rfl rfl (by decide) (by decide) (by decide) dP_multiply_123 (fun _ _ => ?_)
      show J E 7 g [aL E a1 5 r, aL E a3 5 (mulP t r p 5), ob h 1 [.ref a1, .ref a2, .ref a3, .ref a4, .ref a5, .ref a6], aL E a2 5 (car (va_cpy (mulP t r p 5) t 0 0 5))] [(0, .ref h), (1, .int 5)] 0 0 126 []
      refine j_aload_n hg 0 dP_multiply_126 rfl rfl ?_
      refine j_callV hg (n := 0) (y := yP_carry) (rm := rm_P_carry) (Ws := (cT yP_carry cP_carry 6 none)) (As := []) (rest := []) (wr := [aL E a1 5 r, aL E a3 5 (mulP t r p 5)]) 0 rfl rfl (c_P_carry l E h a1 a2 a3 a4 a5 a6 (car (va_cpy (mulP t r p 5) t 0 0 5))) (gdV m227 m229 ms9 m3 m230) rfl (by decide +kernel) ⟨by decide, by decide⟩ rfl rfl (Nat.le_of_ble_eq_true rfl) ⟨by decide, by decide⟩ [2, 3] [0, 1] rfl rfl (by decide) (by decide) (by decide) dP_multiply_127 (fun _ _ => ?_)
      show J E 7 g [aL E a1 5 r, aL E a3 5 (mulP t r p 5), ob h 1 [.ref a1, .ref a2, .ref a3, .ref a4, .ref a5, .ref a6], aL E a2 5 (car (car (va_cpy (mulP t r p 5) t 0 0 5)))] [(0, .ref h), (1, .int 5)] 0 0 130 []
      exact j_vret hg hR () trivial rfl [2, 0, 3, 1] rfl (by decide) (by decide) (by decide) dP_multiply_130
    | succ zk ih =>
      intro i  hi
      refine j_iload_n hg 1 dP_multiply_2 rfl rfl ?_
      refine j_iconst hg (v := 5) dP_multiply_3 (by decide) ?_
      refine j_nge_f hg (tgt := 108) i 5 rfl rfl (by omega) (by omega) (by omega) dP_multiply_4 (by decide) ?_
      refine j_lconst hg (v := 0) dP_multiply_7 (by decide) ?_
      refine j_lstore_n hg (lv' := [(2, .long 0), (0, .ref h), (1, .int (nI i))]) dP_multiply_8 rfl (by decide) rfl ?_
      refine j_lconst hg (v := 0) dP_multiply_9 (by decide) ?_
      refine j_lstore hg (lv' := [(4, .long 0), (2, .long 0), (0, .ref h), (1, .int (nI i))]) dP_multiply_10 (by decide) rfl ?_
      refine j_iconst hg (v := 0) dP_multiply_12 (by decide) ?_
      refine j_istore hg (lv' := [(6, .int 0), (4, .long 0), (2, .long 0), (0, .ref h), (1, .int (nI i))]) dP_multiply_13 (by decide) rfl ?_
      refine j_pick [3, 4, 2, 1, 0] (lv' := [(0, .ref h), (1, .int (nI i)), (2, .long 0), (4, .long 0), (6, .int 0)]) rfl ?_
      have loop2 : ∀ (zk j : Nat), j + zk = i + 1 → J E 7 g [ob h 1 [.ref a1, .ref a2, .ref a3, .ref a4, .ref a5, .ref a6], aL E a1 5 r, aL E a2 5 t, aL E a3 5 (mulP t r p i)] [(0, .ref h), (1, .int (nI i)), (2, .long (mulS t r i j)), (4, .long 0), (6, .int (nI j))] 0 0 15 [] := by
        intro zk
        induction zk with
        | zero =>
          intro j  hi
          obtain rfl : i + 1 = j := by omega
          refine j_iload hg 4 dP_multiply_15 rfl ?_
          refine j_iload_n hg 1 dP_multiply_17 rfl rfl ?_
          refine j_ngt_t hg (tgt := 47) (i + 1) i rfl rfl (by omega) (by omega) (by omega) dP_multiply_18 (by decide) ?_
          refine j_iload_n hg 1 dP_multiply_47 rfl rfl ?_
          refine j_iconst hg (v := 1) dP_multiply_48 (by decide) ?_
          refine j_iadd hg (v := nI (i + 1)) dP_multiply_49 (nI_add i 1) ?_
          refine j_istore hg (lv' := [(6, .int (nI (i + 1))), (0, .ref h), (1, .int (nI i)), (2, .long (mulS t r i (i + 1))), (4, .long 0)]) dP_multiply_50 (by decide) rfl ?_
          refine j_pick [1, 2, 3, 4, 0] (lv' := [(0, .ref h), (1, .int (nI i)), (2, .long (mulS t r i (i + 1))), (4, .long 0), (6, .int (nI (i + 1)))]) rfl ?_
          have loop3 : ∀ (zk j : Nat), j + zk = 4 - i → J E 7 g [ob h 1 [.ref a1, .ref a2, .ref a3, .ref a4, .ref a5, .ref a6], aL E a1 5 r, aL E a2 5 t, aL E a3 5 (mulP t r p i)] [(0, .ref h), (1, .int (nI i)), (2, .long (mulS t r i (i + 1))), (4, .long (mulW t r i j)), (6, .int (nI (i + 1 + j)))] 0 0 52 [] := by
            intro zk
            induction zk with
            | zero =>
              intro j  hi
              obtain rfl : 4 - i = j := by omega
              refine j_iload hg 4 dP_multiply_52 rfl ?_
              refine j_iconst hg (v := 5) dP_multiply_54 (by decide) ?_
              refine j_nge_t hg (tgt := 88) (i + 1 + (4 - i)) 5 rfl rfl (by omega) (by omega) (by omega) dP_multiply_55 (by decide) ?_
              refine j_aload_n hg 0 dP_multiply_88 rfl rfl ?_
              refine j_get hg (C := RX1) (T := TX1) (N := 6) inX1 0 rfl rfl 2 (by decide) m40 rfl dP_multiply_89 ?_
              refine j_iload_n hg 1 dP_multiply_92 rfl rfl ?_
              refine j_lload_n hg 2 dP_multiply_93 rfl rfl ?_
              refine j_ldc2 hg (v := 5) m226 dP_multiply_94 ?_
              refine j_lload hg 3 dP_multiply_97 rfl ?_
              refine j_lmul hg (v := 5 * (mulW t r i (4 - i))) dP_multiply_99 rfl ?_
              refine j_ladd hg (v := (mulS t r i (i + 1)) + (5 * (mulW t r i (4 - i)))) dP_multiply_100 rfl ?_
              refine j_last hg (ws' := [ob h 1 [.ref a1, .ref a2, .ref a3, .ref a4, .ref a5, .ref a6], aL E a1 5 r, aL E a2 5 t, aL E a3 5 (vp_updL (mulP t r p i) i ((mulS t r i (i + 1)) + (5 * (mulW t r i (4 - i)))))]) 3 i rfl rfl (by omega) (by omega) rfl dP_multiply_101 ?_
              refine j_iinc hg (kq := 1) (v := nI (i + 1)) (lv' := [(1, .int (nI (i + 1))), (0, .ref h), (2, .long (mulS t r i (i + 1))), (4, .long (mulW t r i (4 - i))), (6, .int (nI (i + 1 + (4 - i))))]) dP_multiply_102 rfl (nI_add i 1) (by decide) rfl ?_
              refine j_goto hg (tgt := 2) dP_multiply_105 (by decide) ?_
              refine j_pick [1, 0] (lv' := [(0, .ref h), (1, .int (nI (i + 1)))]) rfl ?_
              exact ih (i + 1) (by omega)
            | succ zk ih =>
              intro j  hi
              refine j_iload hg 4 dP_multiply_52 rfl ?_
              refine j_iconst hg (v := 5) dP_multiply_54 (by decide) ?_
              refine j_nge_f hg (tgt := 88) (i + 1 + j) 5 rfl rfl (by omega) (by omega) (by omega) dP_multiply_55 (by decide) ?_
              refine j_lload hg 3 dP_multiply_58 rfl ?_
              refine j_aload_n hg 0 dP_multiply_60 rfl rfl ?_
              refine j_get hg (C := RX1) (T := TX1) (N := 6) inX1 0 rfl rfl 1 (by decide) m39 rfl dP_multiply_61 ?_
              refine j_iload hg 4 dP_multiply_64 rfl ?_
              refine j_lald hg (v := t (i + 1 + j)) 2 (i + 1 + j) rfl rfl (by omega) (by omega) rfl dP_multiply_66 ?_
              refine j_aload_n hg 0 dP_multiply_67 rfl rfl ?_
              refine j_get hg (C := RX1) (T := TX1) (N := 6) inX1 0 rfl rfl 0 (by decide) m38 rfl dP_multiply_68 ?_
              refine j_iload_n hg 1 dP_multiply_71 rfl rfl ?_
              refine j_iload hg 4 dP_multiply_72 rfl ?_
              refine j_isub hg (v := (nI i) - (nI (i + 1 + j))) dP_multiply_74 rfl ?_
              refine j_iconst hg (v := 5) dP_multiply_75 (by decide) ?_
              refine j_iadd hg (v := ((nI i) - (nI (i + 1 + j))) + 5) dP_multiply_76 rfl ?_
              refine j_topi (nI_sba i (i + 1 + j) 5 (by omega)) ?_
              refine j_lald hg (v := r (i + 5 - (i + 1 + j))) 1 (i + 5 - (i + 1 + j)) rfl rfl (by omega) (by omega) rfl dP_multiply_77 ?_
              refine j_lmul hg (v := (t (i + 1 + j)) * (r (i + 5 - (i + 1 + j)))) dP_multiply_78 rfl ?_
              refine j_ladd hg (v := (mulW t r i j) + ((t (i + 1 + j)) * (r (i + 5 - (i + 1 + j))))) dP_multiply_79 rfl ?_
              refine j_lstore hg (lv' := [(4, .long ((mulW t r i j) + ((t (i + 1 + j)) * (r (i + 5 - (i + 1 + j)))))), (0, .ref h), (1, .int (nI i)), (2, .long (mulS t r i (i + 1))), (6, .int (nI (i + 1 + j)))]) dP_multiply_80 (by decide) rfl ?_
              refine j_iinc hg (kq := 4) (v := nI (i + 1 + (j + 1))) (lv' := [(6, .int (nI (i + 1 + (j + 1)))), (4, .long ((mulW t r i j) + ((t (i + 1 + j)) * (r (i + 5 - (i + 1 + j)))))), (0, .ref h), (1, .int (nI i)), (2, .long (mulS t r i (i + 1)))]) dP_multiply_82 rfl (Eq.trans (nI_add (i + 1 + j) 1) (congrArg nI (by omega))) (by decide) rfl ?_
              refine j_goto hg (tgt := 52) dP_multiply_85 (by decide) ?_
              refine j_pick [2, 3, 4, 1, 0] (lv' := [(0, .ref h), (1, .int (nI i)), (2, .long (mulS t r i (i + 1))), (4, .long ((mulW t r i j) + ((t (i + 1 + j)) * (r (i + 5 - (i + 1 + j)))))), (6, .int (nI (i + 1 + (j + 1))))]) rfl ?_
              exact ih (j + 1) (by omega)
          exact loop3 (4 - i) 0 (by omega)
        | succ zk ih =>
          intro j  hi
          refine j_iload hg 4 dP_multiply_15 rfl ?_
          refine j_iload_n hg 1 dP_multiply_17 rfl rfl ?_
          refine j_ngt_f hg (tgt := 47) j i rfl rfl (by omega) (by omega) (by omega) dP_multiply_18 (by decide) ?_
          refine j_lload_n hg 2 dP_multiply_21 rfl rfl ?_
          refine j_aload_n hg 0 dP_multiply_22 rfl rfl ?_
          refine j_get hg (C := RX1) (T := TX1) (N := 6) inX1 0 rfl rfl 1 (by decide) m39 rfl dP_multiply_23 ?_
          refine j_iload hg 4 dP_multiply_26 rfl ?_
          refine j_lald hg (v := t j) 2 j rfl rfl (by omega) (by omega) rfl dP_multiply_28 ?_
          refine j_aload_n hg 0 dP_multiply_29 rfl rfl ?_
          refine j_get hg (C := RX1) (T := TX1) (N := 6) inX1 0 rfl rfl 0 (by decide) m38 rfl dP_multiply_30 ?_
          refine j_iload_n hg 1 dP_multiply_33 rfl rfl ?_
          refine j_iload hg 4 dP_multiply_34 rfl ?_
          refine j_isub hg (v := nI (i - j)) dP_multiply_36 (pk_sub (a := i) (b := j) (by omega)) ?_
          refine j_lald hg (v := r (i - j)) 1 (i - j) rfl rfl (by omega) (by omega) rfl dP_multiply_37 ?_
          refine j_lmul hg (v := (t j) * (r (i - j))) dP_multiply_38 rfl ?_
          refine j_ladd hg (v := (mulS t r i j) + ((t j) * (r (i - j)))) dP_multiply_39 rfl ?_
          refine j_lstore_n hg (lv' := [(2, .long ((mulS t r i j) + ((t j) * (r (i - j))))), (0, .ref h), (1, .int (nI i)), (4, .long 0), (6, .int (nI j))]) dP_multiply_40 rfl (by decide) rfl ?_
          refine j_iinc hg (kq := 4) (v := nI (j + 1)) (lv' := [(6, .int (nI (j + 1))), (2, .long ((mulS t r i j) + ((t j) * (r (i - j))))), (0, .ref h), (1, .int (nI i)), (4, .long 0)]) dP_multiply_41 rfl (nI_add j 1) (by decide) rfl ?_
          refine j_goto hg (tgt := 15) dP_multiply_44 (by decide) ?_
          refine j_pick [2, 3, 1, 4, 0] (lv' := [(0, .ref h), (1, .int (nI i)), (2, .long ((mulS t r i j) + ((t j) * (r (i - j))))), (4, .long 0), (6, .int (nI (j + 1)))]) rfl ?_
          exact ih (j + 1) (by omega)
      exact loop2 (i + 1) 0 (by omega)
  exact loop (5) 0 (by omega)
