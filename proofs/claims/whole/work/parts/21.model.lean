/-! The reference: its small methods, and ChaCha20. -/
def addR (row src : Nat → Int32) (rc k0 : Nat) : Nat → Nat → Int32
  | 0 => row
  | i + 1 => upd (addR row src rc k0 i) (rc + i) (sB (src (k0 + i)))
def mtn (x : Int64) (n : Int32) : Int64 := (lshr x n ||| lshl x (32 - n)) &&& 4294967295
def cpN (b v : Nat → Int32) : Nat → Nat → Int32
  | 0 => v
  | i + 1 => upd (cpN b v i) i (b i)
def mcol (f : Nat → Int32) : Nat → Nat → Int32
  | 0 => f
  | i + 1 => qr (mcol f i) i (4 + i) (8 + i) (12 + i)
def mdia (f : Nat → Int32) : Nat → Nat → Int32
  | 0 => f
  | i + 1 => qr (mdia f i) i (4 + (i + 1) % 4) (8 + (i + 2) % 4) (12 + (i + 3) % 4)
def mrd (f : Nat → Int32) : Nat → Nat → Int32
  | 0 => f
  | i + 1 => mdia (mcol (mrd f i) 4) 4
def st4 (s : Nat → Int32) (i : Nat) (x : Int32) : Nat → Nat → Int32
  | 0 => s
  | j + 1 => upd (st4 s i x j) (4 * i + j) (sB (shr x (nI (8 * j))))
def stm (s v b : Nat → Int32) : Nat → Nat → Int32
  | 0 => s
  | i + 1 => st4 (stm s v b i) i (v i + b i) 4
def mvF (b v fk fn : Nat → Int32) (c : Int32) : Nat → Int32 := mrd (cpN (layF b fk fn c) v 16) 10
def msF (s b v fk fn : Nat → Int32) (c : Int32) : Nat → Int32 := stm s (mvF b v fk fn c) (layF b fk fn c) 16

def rm_M_add : Room := { frames := 0, cells := 0, slots := 0, locals := 0 }
set_option maxHeartbeats 1000000 in
set_option maxRecDepth 100000 in
theorem c_M_add (l : Launch) (E : Ev) (h mt mo mk mn mr mh mw mi mv mb ms mu mp mc mx mg ma : Nat) (tn on rc tx : Nat) (row : Nat → Int32) (b : Int32) (h1 : rc < 1024) : MC E l yM_add (cT yM_add cM_add 2 none) rm_M_add [.ref h, .int b] [ob h 4 [.ref mt, .int (nI tn), .ref mo, .int (nI on), .ref mk, .ref mn, .ref mr, .int (nI rc), .ref mh, .ref mw, .ref mi, .ref mv, .ref mb, .ref ms, .ref mu, .ref mp, .ref mc, .ref mx, .ref mg, .ref ma, .int (nI tx)], aB E mr 1024 row] Unit (fun _ => True) (fun _ => none) (fun _ => [ob h 4 [.ref mt, .int (nI tn), .ref mo, .int (nI on), .ref mk, .ref mn, .ref mr, .int (nI (rc + 1)), .ref mh, .ref mw, .ref mi, .ref mv, .ref mb, .ref ms, .ref mu, .ref mp, .ref mc, .ref mx, .ref mg, .ref ma, .int (nI tx)], aB E mr 1024 (upd row rc (sB b))]) := by
  refine MC.of (cc := cM_add) (nL := 2) (ret := none) (by decide) rfl cT_in (Nat.le_of_ble_eq_true rfl) (fun g hg hR => ?_)
  show J E 2 g [ob h 4 [.ref mt, .int (nI tn), .ref mo, .int (nI on), .ref mk, .ref mn, .ref mr, .int (nI rc), .ref mh, .ref mw, .ref mi, .ref mv, .ref mb, .ref ms, .ref mu, .ref mp, .ref mc, .ref mx, .ref mg, .ref ma, .int (nI tx)], aB E mr 1024 row] [(0, .ref h), (1, .int b)] 0 0 0 []
  refine j_aload_n hg 0 dM_add_0 rfl rfl ?_
  refine j_get hg (C := RX4) (T := TX4) (N := 21) inX4 0 rfl rfl 6 (by decide) m334 rfl dM_add_1 ?_
  refine j_aload_n hg 0 dM_add_4 rfl rfl ?_
  refine j_get hg (C := RX4) (T := TX4) (N := 21) inX4 0 rfl rfl 7 (by decide) m335 rfl dM_add_5 ?_
  refine j_iload_n hg 1 dM_add_8 rfl rfl ?_
  refine j_i2b hg (v := sB b) dM_add_9 rfl ?_
  refine j_bast hg (ws' := [ob h 4 [.ref mt, .int (nI tn), .ref mo, .int (nI on), .ref mk, .ref mn, .ref mr, .int (nI rc), .ref mh, .ref mw, .ref mi, .ref mv, .ref mb, .ref ms, .ref mu, .ref mp, .ref mc, .ref mx, .ref mg, .ref ma, .int (nI tx)], aB E mr 1024 (upd row rc (sB b))]) 1 rc rfl rfl (by omega) (by omega) (sB_nar _) rfl dM_add_10 ?_
  refine j_aload_n hg 0 dM_add_11 rfl rfl ?_
  refine j_dup hg dM_add_12 rfl ?_
  refine j_get hg (C := RX4) (T := TX4) (N := 21) inX4 0 rfl rfl 7 (by decide) m335 rfl dM_add_13 ?_
  refine j_iconst hg (v := 1) dM_add_16 (by decide) ?_
  refine j_iadd hg (v := nI (rc + 1)) dM_add_17 (nI_add rc 1) ?_
  refine j_put hg (C := RX4) (T := TX4) (N := 21) (ty := .int) (ws' := [ob h 4 [.ref mt, .int (nI tn), .ref mo, .int (nI on), .ref mk, .ref mn, .ref mr, .int (nI (rc + 1)), .ref mh, .ref mw, .ref mi, .ref mv, .ref mb, .ref ms, .ref mu, .ref mp, .ref mc, .ref mx, .ref mg, .ref ma, .int (nI tx)], aB E mr 1024 (upd row rc (sB b))]) inX4 tyX4 tyX4_ok nmX4 0 rfl rfl 7 (by decide) m335 rfl (by decide +kernel) rfl rfl (Nat.le_of_ble_eq_true rfl) rfl dM_add_18 ?_
  exact j_vret hg hR () trivial rfl [0, 1] rfl (by decide) (by decide) (by decide) dM_add_21

def rm_M_addArr : Room := { frames := 1, cells := 0, slots := 0, locals := 21 }
set_option maxHeartbeats 1000000 in
set_option maxRecDepth 100000 in
theorem c_M_addArr (l : Launch) (E : Ev) (h mt mo mk mn mr mh mw mi mv mb ms mu mp mc mx mg ma : Nat) (tn on rc tx : Nat) (rr n : Nat) (row src : Nat → Int32) (k m : Nat) (h1 : rc + m ≤ 1024) (h2 : k + m ≤ n) (h3 : n < 1000000) : MC E l yM_addArr (cT yM_addArr cM_addArr 5 none) rm_M_addArr [.ref h, .ref rr, .int (nI k), .int (nI m)] [ob h 4 [.ref mt, .int (nI tn), .ref mo, .int (nI on), .ref mk, .ref mn, .ref mr, .int (nI rc), .ref mh, .ref mw, .ref mi, .ref mv, .ref mb, .ref ms, .ref mu, .ref mp, .ref mc, .ref mx, .ref mg, .ref ma, .int (nI tx)], aB E mr 1024 row, aB E rr n src] Unit (fun _ => True) (fun _ => none) (fun _ => [ob h 4 [.ref mt, .int (nI tn), .ref mo, .int (nI on), .ref mk, .ref mn, .ref mr, .int (nI (rc + m)), .ref mh, .ref mw, .ref mi, .ref mv, .ref mb, .ref ms, .ref mu, .ref mp, .ref mc, .ref mx, .ref mg, .ref ma, .int (nI tx)], aB E mr 1024 (addR row src rc k m), aB E rr n src]) := by
  refine MC.of (cc := cM_addArr) (nL := 5) (ret := none) (by decide) rfl cT_in (Nat.le_of_ble_eq_true rfl) (fun g hg hR => ?_)
  show J E 5 g [ob h 4 [.ref mt, .int (nI tn), .ref mo, .int (nI on), .ref mk, .ref mn, .ref mr, .int (nI rc), .ref mh, .ref mw, .ref mi, .ref mv, .ref mb, .ref ms, .ref mu, .ref mp, .ref mc, .ref mx, .ref mg, .ref ma, .int (nI tx)], aB E mr 1024 row, aB E rr n src] [(0, .ref h), (1, .ref rr), (2, .int (nI k)), (3, .int (nI m))] 0 0 0 []
  refine j_iconst hg (v := 0) dM_addArr_0 (by decide) ?_
  refine j_istore hg (lv' := [(4, .int 0), (0, .ref h), (1, .ref rr), (2, .int (nI k)), (3, .int (nI m))]) dM_addArr_1 (by decide) rfl ?_
  refine j_pick [1, 2, 3, 4, 0] (lv' := [(0, .ref h), (1, .ref rr), (2, .int (nI k)), (3, .int (nI m)), (4, .int 0)]) rfl ?_
  have loop : ∀ (zk i : Nat), i + zk = m → J E 5 g [ob h 4 [.ref mt, .int (nI tn), .ref mo, .int (nI on), .ref mk, .ref mn, .ref mr, .int (nI (rc + i)), .ref mh, .ref mw, .ref mi, .ref mv, .ref mb, .ref ms, .ref mu, .ref mp, .ref mc, .ref mx, .ref mg, .ref ma, .int (nI tx)], aB E mr 1024 (addR row src rc k i), aB E rr n src] [(0, .ref h), (1, .ref rr), (2, .int (nI k)), (3, .int (nI m)), (4, .int (nI i))] 0 0 3 [] := by
    intro zk
    induction zk with
    | zero =>
      intro i  hi
      obtain rfl : m = i := by omega
      refine j_iload hg 4 dM_addArr_3 rfl ?_
      refine j_iload_n hg 3 dM_addArr_5 rfl rfl ?_
      refine j_nge_t hg (tgt := 25) m m rfl rfl (by omega) (by omega) (by omega) dM_addArr_6 (by decide) ?_
      exact j_vret hg hR () trivial rfl [0, 1, 2] rfl (by decide) (by decide) (by decide) dM_addArr_25
    | succ zk ih =>
      intro i  hi
      refine j_iload hg 4 dM_addArr_3 rfl ?_
      refine j_iload_n hg 3 dM_addArr_5 rfl rfl ?_
      refine j_nge_f hg (tgt := 25) i m rfl rfl (by omega) (by omega) (by omega) dM_addArr_6 (by decide) ?_
      refine j_aload_n hg 0 dM_addArr_9 rfl rfl ?_
      refine j_aload_n hg 1 dM_addArr_10 rfl rfl ?_
      refine j_iload_n hg 2 dM_addArr_11 rfl rfl ?_
      refine j_iload hg 4 dM_addArr_12 rfl ?_
      refine j_iadd hg (v := nI (k + i)) dM_addArr_14 (nI_add k i) ?_
      refine j_bald hg (v := src (k + i)) 2 (k + i) rfl rfl (by omega) (by omega) rfl dM_addArr_15 ?_
      refine j_callV hg (n := 1) (y := yM_add) (rm := rm_M_add) (Ws := (cT yM_add cM_add 2 none)) (As := [.int (src (k + i))]) (rest := []) (wr := [aB E rr n src]) 0 rfl rfl (c_M_add l E h mt mo mk mn mr mh mw mi mv mb ms mu mp mc mx mg ma tn on (rc + i) tx (addR row src rc k i) (src (k + i)) (by omega)) (gdV m486 m488 ms29 m5 m489) rfl (by decide +kernel) ⟨by decide, by decide⟩ rfl rfl (Nat.le_of_ble_eq_true rfl) ⟨by decide, by decide⟩ [0, 1] [2] rfl rfl (by decide) (by decide) (by decide) dM_addArr_16 (fun _ _ => ?_)
      show J E 5 g [aB E rr n src, ob h 4 [.ref mt, .int (nI tn), .ref mo, .int (nI on), .ref mk, .ref mn, .ref mr, .int (nI (rc + i + 1)), .ref mh, .ref mw, .ref mi, .ref mv, .ref mb, .ref ms, .ref mu, .ref mp, .ref mc, .ref mx, .ref mg, .ref ma, .int (nI tx)], aB E mr 1024 (upd (addR row src rc k i) (rc + i) (sB (src (k + i))))] [(0, .ref h), (1, .ref rr), (2, .int (nI k)), (3, .int (nI m)), (4, .int (nI i))] 0 0 19 []
      refine j_iinc hg (kq := 4) (v := nI (i + 1)) (lv' := [(4, .int (nI (i + 1))), (0, .ref h), (1, .ref rr), (2, .int (nI k)), (3, .int (nI m))]) dM_addArr_19 rfl (nI_add i 1) (by decide) rfl ?_
      refine j_goto hg (tgt := 3) dM_addArr_22 (by decide) ?_
      refine j_sub [1, 2, 0] (ws' := [ob h 4 [.ref mt, .int (nI tn), .ref mo, .int (nI on), .ref mk, .ref mn, .ref mr, .int (nI (rc + i + 1)), .ref mh, .ref mw, .ref mi, .ref mv, .ref mb, .ref ms, .ref mu, .ref mp, .ref mc, .ref mx, .ref mg, .ref ma, .int (nI tx)], aB E mr 1024 (upd (addR row src rc k i) (rc + i) (sB (src (k + i)))), aB E rr n src]) rfl (by decide) ?_
      refine j_pick [1, 2, 3, 4, 0] (lv' := [(0, .ref h), (1, .ref rr), (2, .int (nI k)), (3, .int (nI m)), (4, .int (nI (i + 1)))]) rfl ?_
      exact ih (i + 1) (by omega)
  exact loop (m) 0 (by omega)

def rm_M_turn : Room := { frames := 0, cells := 0, slots := 0, locals := 0 }
set_option maxHeartbeats 1000000 in
set_option maxRecDepth 100000 in
theorem c_M_turn (l : Launch) (E : Ev) (x : Int64) (n : Int32) : MC E l yM_turn (cT yM_turn cM_turn 3 (some .long)) rm_M_turn [.long x, .int n] [] Unit (fun _ => True) (fun _ => some (.long (mtn x n))) (fun _ => []) := by
  refine MC.of (cc := cM_turn) (nL := 3) (ret := (some .long)) (by decide) rfl cT_in (Nat.le_of_ble_eq_true rfl) (fun g hg hR => ?_)
  show J E 3 g [] [(0, .long x), (2, .int n)] 0 0 0 []
  refine j_lload_n hg 0 dM_turn_0 rfl rfl ?_
  refine j_iload_n hg 1 dM_turn_1 rfl rfl ?_
  refine j_lshr hg (v := lshr x n) dM_turn_2 rfl ?_
  refine j_lload_n hg 0 dM_turn_3 rfl rfl ?_
  refine j_bipush hg (v := 32) dM_turn_4 (by decide) ?_
  refine j_iload_n hg 1 dM_turn_6 rfl rfl ?_
  refine j_isub hg (v := 32 - n) dM_turn_7 rfl ?_
  refine j_lshl hg (v := lshl x (32 - n)) dM_turn_8 rfl ?_
  refine j_lor hg (v := (lshr x n) ||| (lshl x (32 - n))) dM_turn_9 rfl ?_
  refine j_ldc2 hg (v := 4294967295) m496 dM_turn_10 ?_
  refine j_land hg (v := ((lshr x n) ||| (lshl x (32 - n))) &&& 4294967295) dM_turn_13 rfl ?_
  exact j_lret hg hR () trivial rfl [] rfl (by decide) (by decide) (by decide) dM_turn_14

def rm_M_low : Room := { frames := 0, cells := 0, slots := 0, locals := 0 }
set_option maxHeartbeats 1000000 in
set_option maxRecDepth 100000 in
theorem c_M_low (l : Launch) (E : Ev) (a n : Nat) (f : Nat → Int32) (k : Nat) (h1 : k + 4 ≤ n) (h2 : n < 2147483648) : MC E l yM_low (cT yM_low cM_low 2 (some .int)) rm_M_low [.ref a, .int (nI k)] [aB E a n f] Unit (fun _ => True) (fun _ => some (.int (rl f k))) (fun _ => [aB E a n f]) := by
  refine MC.of (cc := cM_low) (nL := 2) (ret := (some .int)) (by decide) rfl cT_in (Nat.le_of_ble_eq_true rfl) (fun g hg hR => ?_)
  show J E 2 g [aB E a n f] [(0, .ref a), (1, .int (nI k))] 0 0 0 []
  refine j_aload_n hg 0 dM_low_0 rfl rfl ?_
  refine j_iload_n hg 1 dM_low_1 rfl rfl ?_
  refine j_bald hg (v := f k) 0 k rfl rfl (by omega) (by omega) rfl dM_low_2 ?_
  refine j_sipush hg (v := 255) dM_low_3 (by decide) ?_
  refine j_iand hg (v := (f k) &&& 255) dM_low_6 rfl ?_
  refine j_aload_n hg 0 dM_low_7 rfl rfl ?_
  refine j_iload_n hg 1 dM_low_8 rfl rfl ?_
  refine j_iconst hg (v := 1) dM_low_9 (by decide) ?_
  refine j_iadd hg (v := nI (k + 1)) dM_low_10 (nI_add k 1) ?_
  refine j_bald hg (v := f (k + 1)) 0 (k + 1) rfl rfl (by omega) (by omega) rfl dM_low_11 ?_
  refine j_sipush hg (v := 255) dM_low_12 (by decide) ?_
  refine j_iand hg (v := (f (k + 1)) &&& 255) dM_low_15 rfl ?_
  refine j_bipush hg (v := 8) dM_low_16 (by decide) ?_
  refine j_ishl hg (v := shl ((f (k + 1)) &&& 255) 8) dM_low_18 rfl ?_
  refine j_ior hg (v := ((f k) &&& 255) ||| (shl ((f (k + 1)) &&& 255) 8)) dM_low_19 rfl ?_
  refine j_aload_n hg 0 dM_low_20 rfl rfl ?_
  refine j_iload_n hg 1 dM_low_21 rfl rfl ?_
  refine j_iconst hg (v := 2) dM_low_22 (by decide) ?_
  refine j_iadd hg (v := nI (k + 2)) dM_low_23 (nI_add k 2) ?_
  refine j_bald hg (v := f (k + 2)) 0 (k + 2) rfl rfl (by omega) (by omega) rfl dM_low_24 ?_
  refine j_sipush hg (v := 255) dM_low_25 (by decide) ?_
  refine j_iand hg (v := (f (k + 2)) &&& 255) dM_low_28 rfl ?_
  refine j_bipush hg (v := 16) dM_low_29 (by decide) ?_
  refine j_ishl hg (v := shl ((f (k + 2)) &&& 255) 16) dM_low_31 rfl ?_
  refine j_ior hg (v := (((f k) &&& 255) ||| (shl ((f (k + 1)) &&& 255) 8)) ||| (shl ((f (k + 2)) &&& 255) 16)) dM_low_32 rfl ?_
  refine j_aload_n hg 0 dM_low_33 rfl rfl ?_
  refine j_iload_n hg 1 dM_low_34 rfl rfl ?_
  refine j_iconst hg (v := 3) dM_low_35 (by decide) ?_
  refine j_iadd hg (v := nI (k + 3)) dM_low_36 (nI_add k 3) ?_
  refine j_bald hg (v := f (k + 3)) 0 (k + 3) rfl rfl (by omega) (by omega) rfl dM_low_37 ?_
  refine j_sipush hg (v := 255) dM_low_38 (by decide) ?_
  refine j_iand hg (v := (f (k + 3)) &&& 255) dM_low_41 rfl ?_
  refine j_bipush hg (v := 24) dM_low_42 (by decide) ?_
  refine j_ishl hg (v := shl ((f (k + 3)) &&& 255) 24) dM_low_44 rfl ?_
  refine j_ior hg (v := ((((f k) &&& 255) ||| (shl ((f (k + 1)) &&& 255) 8)) ||| (shl ((f (k + 2)) &&& 255) 16)) ||| (shl ((f (k + 3)) &&& 255) 24)) dM_low_45 rfl ?_
  exact j_iret hg hR rfl () trivial rfl [0] rfl (by decide) (by decide) (by decide) dM_low_46

def rm_M_turned : Room := { frames := 0, cells := 0, slots := 0, locals := 0 }
set_option maxHeartbeats 1000000 in
set_option maxRecDepth 100000 in
theorem c_M_turned (l : Launch) (E : Ev) (v b : Int32) : MC E l yM_turned (cT yM_turned cM_turned 2 (some .int)) rm_M_turned [.int v, .int b] [] Unit (fun _ => True) (fun _ => some (.int (tl v b))) (fun _ => []) := by
  refine MC.of (cc := cM_turned) (nL := 2) (ret := (some .int)) (by decide) rfl cT_in (Nat.le_of_ble_eq_true rfl) (fun g hg hR => ?_)
  show J E 2 g [] [(0, .int v), (1, .int b)] 0 0 0 []
  refine j_iload_n hg 0 dM_turned_0 rfl rfl ?_
  refine j_iload_n hg 1 dM_turned_1 rfl rfl ?_
  refine j_ishl hg (v := shl v b) dM_turned_2 rfl ?_
  refine j_iload_n hg 0 dM_turned_3 rfl rfl ?_
  refine j_bipush hg (v := 32) dM_turned_4 (by decide) ?_
  refine j_iload_n hg 1 dM_turned_6 rfl rfl ?_
  refine j_isub hg (v := 32 - b) dM_turned_7 rfl ?_
  refine j_iushr hg (v := ushr v (32 - b)) dM_turned_8 rfl ?_
  refine j_ior hg (v := (shl v b) ||| (ushr v (32 - b))) dM_turned_9 rfl ?_
  exact j_iret hg hR rfl () trivial rfl [] rfl (by decide) (by decide) (by decide) dM_turned_10

def rm_M_mix : Room := { frames := 1, cells := 0, slots := 0, locals := 21 }
set_option maxHeartbeats 1000000 in
set_option maxRecDepth 100000 in
theorem c_M_mix (l : Launch) (E : Ev) (h mt mo mk mn mr mh mw mi mv mb ms mu mp mc mx mg ma : Nat) (tn on rc tx : Nat) (f : Nat → Int32) (a b c d : Nat) (ha : a < 16) (hb : b < 16) (hc : c < 16) (hd : d < 16) : MC E l yM_mix (cT yM_mix cM_mix 5 none) rm_M_mix [.ref h, .int (nI a), .int (nI b), .int (nI c), .int (nI d)] [ob h 4 [.ref mt, .int (nI tn), .ref mo, .int (nI on), .ref mk, .ref mn, .ref mr, .int (nI rc), .ref mh, .ref mw, .ref mi, .ref mv, .ref mb, .ref ms, .ref mu, .ref mp, .ref mc, .ref mx, .ref mg, .ref ma, .int (nI tx)], aI E mv 16 f] Unit (fun _ => True) (fun _ => none) (fun _ => [ob h 4 [.ref mt, .int (nI tn), .ref mo, .int (nI on), .ref mk, .ref mn, .ref mr, .int (nI rc), .ref mh, .ref mw, .ref mi, .ref mv, .ref mb, .ref ms, .ref mu, .ref mp, .ref mc, .ref mx, .ref mg, .ref ma, .int (nI tx)], aI E mv 16 (qr f a b c d)]) := by
  refine MC.of (cc := cM_mix) (nL := 5) (ret := none) (by decide) rfl cT_in (Nat.le_of_ble_eq_true rfl) (fun g hg hR => ?_)
  show J E 5 g [ob h 4 [.ref mt, .int (nI tn), .ref mo, .int (nI on), .ref mk, .ref mn, .ref mr, .int (nI rc), .ref mh, .ref mw, .ref mi, .ref mv, .ref mb, .ref ms, .ref mu, .ref mp, .ref mc, .ref mx, .ref mg, .ref ma, .int (nI tx)], aI E mv 16 f] [(0, .ref h), (1, .int (nI a)), (2, .int (nI b)), (3, .int (nI c)), (4, .int (nI d))] 0 0 0 []
  refine j_aload_n hg 0 dM_mix_0 rfl rfl ?_
  refine j_get hg (C := RX4) (T := TX4) (N := 21) inX4 0 rfl rfl 11 (by decide) m339 rfl dM_mix_1 ?_
  refine j_iload_n hg 1 dM_mix_4 rfl rfl ?_
  refine j_dup2_11 hg dM_mix_5 rfl rfl ?_
  refine j_iald hg (v := f a) 1 a rfl rfl (by omega) (by omega) rfl dM_mix_6 ?_
  refine j_aload_n hg 0 dM_mix_7 rfl rfl ?_
  refine j_get hg (C := RX4) (T := TX4) (N := 21) inX4 0 rfl rfl 11 (by decide) m339 rfl dM_mix_8 ?_
  refine j_iload_n hg 2 dM_mix_11 rfl rfl ?_
  refine j_iald hg (v := f b) 1 b rfl rfl (by omega) (by omega) rfl dM_mix_12 ?_
  refine j_iadd hg (v := (f a) + (f b)) dM_mix_13 rfl ?_
  refine j_iast hg (ws' := [ob h 4 [.ref mt, .int (nI tn), .ref mo, .int (nI on), .ref mk, .ref mn, .ref mr, .int (nI rc), .ref mh, .ref mw, .ref mi, .ref mv, .ref mb, .ref ms, .ref mu, .ref mp, .ref mc, .ref mx, .ref mg, .ref ma, .int (nI tx)], aI E mv 16 (qa f a b)]) 1 a rfl rfl (by omega) (by omega) rfl dM_mix_14 ?_
  refine j_aload_n hg 0 dM_mix_15 rfl rfl ?_
  refine j_get hg (C := RX4) (T := TX4) (N := 21) inX4 0 rfl rfl 11 (by decide) m339 rfl dM_mix_16 ?_
  refine j_iload hg 4 dM_mix_19 rfl ?_
  refine j_aload_n hg 0 dM_mix_21 rfl rfl ?_
  refine j_get hg (C := RX4) (T := TX4) (N := 21) inX4 0 rfl rfl 11 (by decide) m339 rfl dM_mix_22 ?_
  refine j_iload hg 4 dM_mix_25 rfl ?_
  refine j_iald hg (v := (qa f a b) d) 1 d rfl rfl (by omega) (by omega) rfl dM_mix_27 ?_
  refine j_aload_n hg 0 dM_mix_28 rfl rfl ?_
  refine j_get hg (C := RX4) (T := TX4) (N := 21) inX4 0 rfl rfl 11 (by decide) m339 rfl dM_mix_29 ?_
  refine j_iload_n hg 1 dM_mix_32 rfl rfl ?_
  refine j_iald hg (v := (qa f a b) a) 1 a rfl rfl (by omega) (by omega) rfl dM_mix_33 ?_
  refine j_ixor hg (v := ((qa f a b) d) ^^^ ((qa f a b) a)) dM_mix_34 rfl ?_
  refine j_bipush hg (v := 16) dM_mix_35 (by decide) ?_
  refine j_callS hg (n := 2) (y := yM_turned) (rm := rm_M_turned) (Ws := (cT yM_turned cM_turned 2 (some .int))) (As := [.int (((qa f a b) d) ^^^ ((qa f a b) a)), .int 16]) (rest := [.int (nI d), .ref mv]) (wr := [ob h 4 [.ref mt, .int (nI tn), .ref mo, .int (nI on), .ref mk, .ref mn, .ref mr, .int (nI rc), .ref mh, .ref mw, .ref mi, .ref mv, .ref mb, .ref ms, .ref mu, .ref mp, .ref mc, .ref mx, .ref mg, .ref ma, .int (nI tx)], aI E mv 16 (qa f a b)]) (c_M_turned l E (((qa f a b) d) ^^^ ((qa f a b) a)) 16) (gdS m435 m436 m5 m437) rfl (by decide +kernel) ⟨by decide, by decide⟩ rfl rfl (Nat.le_of_ble_eq_true rfl) ⟨by decide, by decide⟩ [] [0, 1] rfl rfl (by decide) (by decide) (by decide) dM_mix_37 (fun _ _ => ?_)
  show J E 5 g [ob h 4 [.ref mt, .int (nI tn), .ref mo, .int (nI on), .ref mk, .ref mn, .ref mr, .int (nI rc), .ref mh, .ref mw, .ref mi, .ref mv, .ref mb, .ref ms, .ref mu, .ref mp, .ref mc, .ref mx, .ref mg, .ref ma, .int (nI tx)], aI E mv 16 (qa f a b)] [(0, .ref h), (1, .int (nI a)), (2, .int (nI b)), (3, .int (nI c)), (4, .int (nI d))] 0 0 40 [.int (tl (((qa f a b) d) ^^^ ((qa f a b) a)) 16), .int (nI d), .ref mv]
  refine j_iast hg (ws' := [ob h 4 [.ref mt, .int (nI tn), .ref mo, .int (nI on), .ref mk, .ref mn, .ref mr, .int (nI rc), .ref mh, .ref mw, .ref mi, .ref mv, .ref mb, .ref ms, .ref mu, .ref mp, .ref mc, .ref mx, .ref mg, .ref ma, .int (nI tx)], aI E mv 16 (qx (qa f a b) d a 16)]) 1 d rfl rfl (by omega) (by omega) rfl dM_mix_40 ?_
  refine j_aload_n hg 0 dM_mix_41 rfl rfl ?_
  refine j_get hg (C := RX4) (T := TX4) (N := 21) inX4 0 rfl rfl 11 (by decide) m339 rfl dM_mix_42 ?_
  refine j_iload_n hg 3 dM_mix_45 rfl rfl ?_
  refine j_dup2_11 hg dM_mix_46 rfl rfl ?_
  refine j_iald hg (v := (qx (qa f a b) d a 16) c) 1 c rfl rfl (by omega) (by omega) rfl dM_mix_47 ?_
  refine j_aload_n hg 0 dM_mix_48 rfl rfl ?_
  refine j_get hg (C := RX4) (T := TX4) (N := 21) inX4 0 rfl rfl 11 (by decide) m339 rfl dM_mix_49 ?_
  refine j_iload hg 4 dM_mix_52 rfl ?_
  refine j_iald hg (v := (qx (qa f a b) d a 16) d) 1 d rfl rfl (by omega) (by omega) rfl dM_mix_54 ?_
  refine j_iadd hg (v := ((qx (qa f a b) d a 16) c) + ((qx (qa f a b) d a 16) d)) dM_mix_55 rfl ?_
  refine j_iast hg (ws' := [ob h 4 [.ref mt, .int (nI tn), .ref mo, .int (nI on), .ref mk, .ref mn, .ref mr, .int (nI rc), .ref mh, .ref mw, .ref mi, .ref mv, .ref mb, .ref ms, .ref mu, .ref mp, .ref mc, .ref mx, .ref mg, .ref ma, .int (nI tx)], aI E mv 16 (qa (qx (qa f a b) d a 16) c d)]) 1 c rfl rfl (by omega) (by omega) rfl dM_mix_56 ?_
  refine j_aload_n hg 0 dM_mix_57 rfl rfl ?_
  refine j_get hg (C := RX4) (T := TX4) (N := 21) inX4 0 rfl rfl 11 (by decide) m339 rfl dM_mix_58 ?_
  refine j_iload_n hg 2 dM_mix_61 rfl rfl ?_
  refine j_aload_n hg 0 dM_mix_62 rfl rfl ?_
  refine j_get hg (C := RX4) (T := TX4) (N := 21) inX4 0 rfl rfl 11 (by decide) m339 rfl dM_mix_63 ?_
  refine j_iload_n hg 2 dM_mix_66 rfl rfl ?_
  refine j_iald hg (v := (qa (qx (qa f a b) d a 16) c d) b) 1 b rfl rfl (by omega) (by omega) rfl dM_mix_67 ?_
  refine j_aload_n hg 0 dM_mix_68 rfl rfl ?_
  refine j_get hg (C := RX4) (T := TX4) (N := 21) inX4 0 rfl rfl 11 (by decide) m339 rfl dM_mix_69 ?_
  refine j_iload_n hg 3 dM_mix_72 rfl rfl ?_
  refine j_iald hg (v := (qa (qx (qa f a b) d a 16) c d) c) 1 c rfl rfl (by omega) (by omega) rfl dM_mix_73 ?_
  refine j_ixor hg (v := ((qa (qx (qa f a b) d a 16) c d) b) ^^^ ((qa (qx (qa f a b) d a 16) c d) c)) dM_mix_74 rfl ?_
  refine j_bipush hg (v := 12) dM_mix_75 (by decide) ?_
  refine j_callS hg (n := 2) (y := yM_turned) (rm := rm_M_turned) (Ws := (cT yM_turned cM_turned 2 (some .int))) (As := [.int (((qa (qx (qa f a b) d a 16) c d) b) ^^^ ((qa (qx (qa f a b) d a 16) c d) c)), .int 12]) (rest := [.int (nI b), .ref mv]) (wr := [ob h 4 [.ref mt, .int (nI tn), .ref mo, .int (nI on), .ref mk, .ref mn, .ref mr, .int (nI rc), .ref mh, .ref mw, .ref mi, .ref mv, .ref mb, .ref ms, .ref mu, .ref mp, .ref mc, .ref mx, .ref mg, .ref ma, .int (nI tx)], aI E mv 16 (qa (qx (qa f a b) d a 16) c d)]) (c_M_turned l E (((qa (qx (qa f a b) d a 16) c d) b) ^^^ ((qa (qx (qa f a b) d a 16) c d) c)) 12) (gdS m435 m436 m5 m437) rfl (by decide +kernel) ⟨by decide, by decide⟩ rfl rfl (Nat.le_of_ble_eq_true rfl) ⟨by decide, by decide⟩ [] [0, 1] rfl rfl (by decide) (by decide) (by decide) dM_mix_77 (fun _ _ => ?_)
  show J E 5 g [ob h 4 [.ref mt, .int (nI tn), .ref mo, .int (nI on), .ref mk, .ref mn, .ref mr, .int (nI rc), .ref mh, .ref mw, .ref mi, .ref mv, .ref mb, .ref ms, .ref mu, .ref mp, .ref mc, .ref mx, .ref mg, .ref ma, .int (nI tx)], aI E mv 16 (qa (qx (qa f a b) d a 16) c d)] [(0, .ref h), (1, .int (nI a)), (2, .int (nI b)), (3, .int (nI c)), (4, .int (nI d))] 0 0 80 [.int (tl (((qa (qx (qa f a b) d a 16) c d) b) ^^^ ((qa (qx (qa f a b) d a 16) c d) c)) 12), .int (nI b), .ref mv]
  refine j_iast hg (ws' := [ob h 4 [.ref mt, .int (nI tn), .ref mo, .int (nI on), .ref mk, .ref mn, .ref mr, .int (nI rc), .ref mh, .ref mw, .ref mi, .ref mv, .ref mb, .ref ms, .ref mu, .ref mp, .ref mc, .ref mx, .ref mg, .ref ma, .int (nI tx)], aI E mv 16 (qx (qa (qx (qa f a b) d a 16) c d) b c 12)]) 1 b rfl rfl (by omega) (by omega) rfl dM_mix_80 ?_
  refine j_aload_n hg 0 dM_mix_81 rfl rfl ?_
  refine j_get hg (C := RX4) (T := TX4) (N := 21) inX4 0 rfl rfl 11 (by decide) m339 rfl dM_mix_82 ?_
  refine j_iload_n hg 1 dM_mix_85 rfl rfl ?_
  refine j_dup2_11 hg dM_mix_86 rfl rfl ?_
  refine j_iald hg (v := (qx (qa (qx (qa f a b) d a 16) c d) b c 12) a) 1 a rfl rfl (by omega) (by omega) rfl dM_mix_87 ?_
  refine j_aload_n hg 0 dM_mix_88 rfl rfl ?_
  refine j_get hg (C := RX4) (T := TX4) (N := 21) inX4 0 rfl rfl 11 (by decide) m339 rfl dM_mix_89 ?_
  refine j_iload_n hg 2 dM_mix_92 rfl rfl ?_
  refine j_iald hg (v := (qx (qa (qx (qa f a b) d a 16) c d) b c 12) b) 1 b rfl rfl (by omega) (by omega) rfl dM_mix_93 ?_
  refine j_iadd hg (v := ((qx (qa (qx (qa f a b) d a 16) c d) b c 12) a) + ((qx (qa (qx (qa f a b) d a 16) c d) b c 12) b)) dM_mix_94 rfl ?_
  refine j_iast hg (ws' := [ob h 4 [.ref mt, .int (nI tn), .ref mo, .int (nI on), .ref mk, .ref mn, .ref mr, .int (nI rc), .ref mh, .ref mw, .ref mi, .ref mv, .ref mb, .ref ms, .ref mu, .ref mp, .ref mc, .ref mx, .ref mg, .ref ma, .int (nI tx)], aI E mv 16 (qa (qx (qa (qx (qa f a b) d a 16) c d) b c 12) a b)]) 1 a rfl rfl (by omega) (by omega) rfl dM_mix_95 ?_
  refine j_aload_n hg 0 dM_mix_96 rfl rfl ?_
  refine j_get hg (C := RX4) (T := TX4) (N := 21) inX4 0 rfl rfl 11 (by decide) m339 rfl dM_mix_97 ?_
  refine j_iload hg 4 dM_mix_100 rfl ?_
  refine j_aload_n hg 0 dM_mix_102 rfl rfl ?_
  refine j_get hg (C := RX4) (T := TX4) (N := 21) inX4 0 rfl rfl 11 (by decide) m339 rfl dM_mix_103 ?_
  refine j_iload hg 4 dM_mix_106 rfl ?_
  refine j_iald hg (v := (qa (qx (qa (qx (qa f a b) d a 16) c d) b c 12) a b) d) 1 d rfl rfl (by omega) (by omega) rfl dM_mix_108 ?_
  refine j_aload_n hg 0 dM_mix_109 rfl rfl ?_
  refine j_get hg (C := RX4) (T := TX4) (N := 21) inX4 0 rfl rfl 11 (by decide) m339 rfl dM_mix_110 ?_
  refine j_iload_n hg 1 dM_mix_113 rfl rfl ?_
  refine j_iald hg (v := (qa (qx (qa (qx (qa f a b) d a 16) c d) b c 12) a b) a) 1 a rfl rfl (by omega) (by omega) rfl dM_mix_114 ?_
  refine j_ixor hg (v := ((qa (qx (qa (qx (qa f a b) d a 16) c d) b c 12) a b) d) ^^^ ((qa (qx (qa (qx (qa f a b) d a 16) c d) b c 12) a b) a)) dM_mix_115 rfl ?_
  refine j_bipush hg (v := 8) dM_mix_116 (by decide) ?_
  refine j_callS hg (n := 2) (y := yM_turned) (rm := rm_M_turned) (Ws := (cT yM_turned cM_turned 2 (some .int))) (As := [.int (((qa (qx (qa (qx (qa f a b) d a 16) c d) b c 12) a b) d) ^^^ ((qa (qx (qa (qx (qa f a b) d a 16) c d) b c 12) a b) a)), .int 8]) (rest := [.int (nI d), .ref mv]) (wr := [ob h 4 [.ref mt, .int (nI tn), .ref mo, .int (nI on), .ref mk, .ref mn, .ref mr, .int (nI rc), .ref mh, .ref mw, .ref mi, .ref mv, .ref mb, .ref ms, .ref mu, .ref mp, .ref mc, .ref mx, .ref mg, .ref ma, .int (nI tx)], aI E mv 16 (qa (qx (qa (qx (qa f a b) d a 16) c d) b c 12) a b)]) (c_M_turned l E (((qa (qx (qa (qx (qa f a b) d a 16) c d) b c 12) a b) d) ^^^ ((qa (qx (qa (qx (qa f a b) d a 16) c d) b c 12) a b) a)) 8) (gdS m435 m436 m5 m437) rfl (by decide +kernel) ⟨by decide, by decide⟩ rfl rfl (Nat.le_of_ble_eq_true rfl) ⟨by decide, by decide⟩ [] [0, 1] rfl rfl (by decide) (by decide) (by decide) dM_mix_118 (fun _ _ => ?_)
  show J E 5 g [ob h 4 [.ref mt, .int (nI tn), .ref mo, .int (nI on), .ref mk, .ref mn, .ref mr, .int (nI rc), .ref mh, .ref mw, .ref mi, .ref mv, .ref mb, .ref ms, .ref mu, .ref mp, .ref mc, .ref mx, .ref mg, .ref ma, .int (nI tx)], aI E mv 16 (qa (qx (qa (qx (qa f a b) d a 16) c d) b c 12) a b)] [(0, .ref h), (1, .int (nI a)), (2, .int (nI b)), (3, .int (nI c)), (4, .int (nI d))] 0 0 121 [.int (tl (((qa (qx (qa (qx (qa f a b) d a 16) c d) b c 12) a b) d) ^^^ ((qa (qx (qa (qx (qa f a b) d a 16) c d) b c 12) a b) a)) 8), .int (nI d), .ref mv]
  refine j_iast hg (ws' := [ob h 4 [.ref mt, .int (nI tn), .ref mo, .int (nI on), .ref mk, .ref mn, .ref mr, .int (nI rc), .ref mh, .ref mw, .ref mi, .ref mv, .ref mb, .ref ms, .ref mu, .ref mp, .ref mc, .ref mx, .ref mg, .ref ma, .int (nI tx)], aI E mv 16 (qx (qa (qx (qa (qx (qa f a b) d a 16) c d) b c 12) a b) d a 8)]) 1 d rfl rfl (by omega) (by omega) rfl dM_mix_121 ?_
  refine j_aload_n hg 0 dM_mix_122 rfl rfl ?_
  refine j_get hg (C := RX4) (T := TX4) (N := 21) inX4 0 rfl rfl 11 (by decide) m339 rfl dM_mix_123 ?_
  refine j_iload_n hg 3 dM_mix_126 rfl rfl ?_
  refine j_dup2_11 hg dM_mix_127 rfl rfl ?_
  refine j_iald hg (v := (qx (qa (qx (qa (qx (qa f a b) d a 16) c d) b c 12) a b) d a 8) c) 1 c rfl rfl (by omega) (by omega) rfl dM_mix_128 ?_
  refine j_aload_n hg 0 dM_mix_129 rfl rfl ?_
  refine j_get hg (C := RX4) (T := TX4) (N := 21) inX4 0 rfl rfl 11 (by decide) m339 rfl dM_mix_130 ?_
  refine j_iload hg 4 dM_mix_133 rfl ?_
  refine j_iald hg (v := (qx (qa (qx (qa (qx (qa f a b) d a 16) c d) b c 12) a b) d a 8) d) 1 d rfl rfl (by omega) (by omega) rfl dM_mix_135 ?_
  refine j_iadd hg (v := ((qx (qa (qx (qa (qx (qa f a b) d a 16) c d) b c 12) a b) d a 8) c) + ((qx (qa (qx (qa (qx (qa f a b) d a 16) c d) b c 12) a b) d a 8) d)) dM_mix_136 rfl ?_
  refine j_iast hg (ws' := [ob h 4 [.ref mt, .int (nI tn), .ref mo, .int (nI on), .ref mk, .ref mn, .ref mr, .int (nI rc), .ref mh, .ref mw, .ref mi, .ref mv, .ref mb, .ref ms, .ref mu, .ref mp, .ref mc, .ref mx, .ref mg, .ref ma, .int (nI tx)], aI E mv 16 (qa (qx (qa (qx (qa (qx (qa f a b) d a 16) c d) b c 12) a b) d a 8) c d)]) 1 c rfl rfl (by omega) (by omega) rfl dM_mix_137 ?_
  refine j_aload_n hg 0 dM_mix_138 rfl rfl ?_
  refine j_get hg (C := RX4) (T := TX4) (N := 21) inX4 0 rfl rfl 11 (by decide) m339 rfl dM_mix_139 ?_
  refine j_iload_n hg 2 dM_mix_142 rfl rfl ?_
  refine j_aload_n hg 0 dM_mix_143 rfl rfl ?_
  refine j_get hg (C := RX4) (T := TX4) (N := 21) inX4 0 rfl rfl 11 (by decide) m339 rfl dM_mix_144 ?_
  refine j_iload_n hg 2 dM_mix_147 rfl rfl ?_
  refine j_iald hg (v := (qa (qx (qa (qx (qa (qx (qa f a b) d a 16) c d) b c 12) a b) d a 8) c d) b) 1 b rfl rfl (by omega) (by omega) rfl dM_mix_148 ?_
  refine j_aload_n hg 0 dM_mix_149 rfl rfl ?_
  refine j_get hg (C := RX4) (T := TX4) (N := 21) inX4 0 rfl rfl 11 (by decide) m339 rfl dM_mix_150 ?_
  refine j_iload_n hg 3 dM_mix_153 rfl rfl ?_
  refine j_iald hg (v := (qa (qx (qa (qx (qa (qx (qa f a b) d a 16) c d) b c 12) a b) d a 8) c d) c) 1 c rfl rfl (by omega) (by omega) rfl dM_mix_154 ?_
  refine j_ixor hg (v := ((qa (qx (qa (qx (qa (qx (qa f a b) d a 16) c d) b c 12) a b) d a 8) c d) b) ^^^ ((qa (qx (qa (qx (qa (qx (qa f a b) d a 16) c d) b c 12) a b) d a 8) c d) c)) dM_mix_155 rfl ?_
  refine j_bipush hg (v := 7) dM_mix_156 (by decide) ?_
  refine j_callS hg (n := 2) (y := yM_turned) (rm := rm_M_turned) (Ws := (cT yM_turned cM_turned 2 (some .int))) (As := [.int (((qa (qx (qa (qx (qa (qx (qa f a b) d a 16) c d) b c 12) a b) d a 8) c d) b) ^^^ ((qa (qx (qa (qx (qa (qx (qa f a b) d a 16) c d) b c 12) a b) d a 8) c d) c)), .int 7]) (rest := [.int (nI b), .ref mv]) (wr := [ob h 4 [.ref mt, .int (nI tn), .ref mo, .int (nI on), .ref mk, .ref mn, .ref mr, .int (nI rc), .ref mh, .ref mw, .ref mi, .ref mv, .ref mb, .ref ms, .ref mu, .ref mp, .ref mc, .ref mx, .ref mg, .ref ma, .int (nI tx)], aI E mv 16 (qa (qx (qa (qx (qa (qx (qa f a b) d a 16) c d) b c 12) a b) d a 8) c d)]) (c_M_turned l E (((qa (qx (qa (qx (qa (qx (qa f a b) d a 16) c d) b c 12) a b) d a 8) c d) b) ^^^ ((qa (qx (qa (qx (qa (qx (qa f a b) d a 16) c d) b c 12) a b) d a 8) c d) c)) 7) (gdS m435 m436 m5 m437) rfl (by decide +kernel) ⟨by decide, by decide⟩ rfl rfl (Nat.le_of_ble_eq_true rfl) ⟨by decide, by decide⟩ [] [0, 1] rfl rfl (by decide) (by decide) (by decide) dM_mix_158 (fun _ _ => ?_)
  show J E 5 g [ob h 4 [.ref mt, .int (nI tn), .ref mo, .int (nI on), .ref mk, .ref mn, .ref mr, .int (nI rc), .ref mh, .ref mw, .ref mi, .ref mv, .ref mb, .ref ms, .ref mu, .ref mp, .ref mc, .ref mx, .ref mg, .ref ma, .int (nI tx)], aI E mv 16 (qa (qx (qa (qx (qa (qx (qa f a b) d a 16) c d) b c 12) a b) d a 8) c d)] [(0, .ref h), (1, .int (nI a)), (2, .int (nI b)), (3, .int (nI c)), (4, .int (nI d))] 0 0 161 [.int (tl (((qa (qx (qa (qx (qa (qx (qa f a b) d a 16) c d) b c 12) a b) d a 8) c d) b) ^^^ ((qa (qx (qa (qx (qa (qx (qa f a b) d a 16) c d) b c 12) a b) d a 8) c d) c)) 7), .int (nI b), .ref mv]
  refine j_iast hg (ws' := [ob h 4 [.ref mt, .int (nI tn), .ref mo, .int (nI on), .ref mk, .ref mn, .ref mr, .int (nI rc), .ref mh, .ref mw, .ref mi, .ref mv, .ref mb, .ref ms, .ref mu, .ref mp, .ref mc, .ref mx, .ref mg, .ref ma, .int (nI tx)], aI E mv 16 (qx (qa (qx (qa (qx (qa (qx (qa f a b) d a 16) c d) b c 12) a b) d a 8) c d) b c 7)]) 1 b rfl rfl (by omega) (by omega) rfl dM_mix_161 ?_
  exact j_vret hg hR () trivial rfl [0, 1] rfl (by decide) (by decide) (by decide) dM_mix_162

def rm_M_block : Room := { frames := 2, cells := 0, slots := 0, locals := 45 }
set_option maxHeartbeats 1000000 in
set_option maxRecDepth 100000 in
theorem c_M_block (l : Launch) (E : Ev) (h mt mo mk mn mr mh mw mi mv mb ms mu mp mc mx mg ma : Nat) (tn on rc tx : Nat) (fk fn v b s : Nat → Int32) (c : Int32) : MC E l yM_block (cT yM_block cM_block 5 none) rm_M_block [.ref h, .int c] [ob h 4 [.ref mt, .int (nI tn), .ref mo, .int (nI on), .ref mk, .ref mn, .ref mr, .int (nI rc), .ref mh, .ref mw, .ref mi, .ref mv, .ref mb, .ref ms, .ref mu, .ref mp, .ref mc, .ref mx, .ref mg, .ref ma, .int (nI tx)], aB E mk 32 fk, aB E mn 12 fn, aI E mv 16 v, aI E mb 16 b, aB E ms 64 s] Unit (fun _ => True) (fun _ => none) (fun _ => [ob h 4 [.ref mt, .int (nI tn), .ref mo, .int (nI on), .ref mk, .ref mn, .ref mr, .int (nI rc), .ref mh, .ref mw, .ref mi, .ref mv, .ref mb, .ref ms, .ref mu, .ref mp, .ref mc, .ref mx, .ref mg, .ref ma, .int (nI tx)], aB E mk 32 fk, aB E mn 12 fn, aI E mv 16 (mvF b v fk fn c), aI E mb 16 (layF b fk fn c), aB E ms 64 (msF s b v fk fn c)]) := by
  refine MC.of (cc := cM_block) (nL := 5) (ret := none) (by decide) rfl cT_in (Nat.le_of_ble_eq_true rfl) (fun g hg hR => ?_)
  show J E 5 g [ob h 4 [.ref mt, .int (nI tn), .ref mo, .int (nI on), .ref mk, .ref mn, .ref mr, .int (nI rc), .ref mh, .ref mw, .ref mi, .ref mv, .ref mb, .ref ms, .ref mu, .ref mp, .ref mc, .ref mx, .ref mg, .ref ma, .int (nI tx)], aB E mk 32 fk, aB E mn 12 fn, aI E mv 16 v, aI E mb 16 b, aB E ms 64 s] [(0, .ref h), (1, .int c)] 0 0 0 []
  refine j_aload_n hg 0 dM_block_0 rfl rfl ?_
  refine j_get hg (C := RX4) (T := TX4) (N := 21) inX4 0 rfl rfl 12 (by decide) m340 rfl dM_block_1 ?_
  refine j_iconst hg (v := 0) dM_block_4 (by decide) ?_
  refine j_ldc hg (v := 1634760805) m424 dM_block_5 ?_
  refine j_iast hg (ws' := [ob h 4 [.ref mt, .int (nI tn), .ref mo, .int (nI on), .ref mk, .ref mn, .ref mr, .int (nI rc), .ref mh, .ref mw, .ref mi, .ref mv, .ref mb, .ref ms, .ref mu, .ref mp, .ref mc, .ref mx, .ref mg, .ref ma, .int (nI tx)], aB E mk 32 fk, aB E mn 12 fn, aI E mv 16 v, aI E mb 16 (upd b 0 1634760805), aB E ms 64 s]) 4 0 rfl rfl (by omega) (by omega) rfl dM_block_7 ?_
  refine j_aload_n hg 0 dM_block_8 rfl rfl ?_
  refine j_get hg (C := RX4) (T := TX4) (N := 21) inX4 0 rfl rfl 12 (by decide) m340 rfl dM_block_9 ?_
  refine j_iconst hg (v := 1) dM_block_12 (by decide) ?_
  refine j_ldc hg (v := 857760878) m425 dM_block_13 ?_
  refine j_iast hg (ws' := [ob h 4 [.ref mt, .int (nI tn), .ref mo, .int (nI on), .ref mk, .ref mn, .ref mr, .int (nI rc), .ref mh, .ref mw, .ref mi, .ref mv, .ref mb, .ref ms, .ref mu, .ref mp, .ref mc, .ref mx, .ref mg, .ref ma, .int (nI tx)], aB E mk 32 fk, aB E mn 12 fn, aI E mv 16 v, aI E mb 16 (upd (upd b 0 1634760805) 1 857760878), aB E ms 64 s]) 4 1 rfl rfl (by omega) (by omega) rfl dM_block_15 ?_
  refine j_aload_n hg 0 dM_block_16 rfl rfl ?_
  refine j_get hg (C := RX4) (T := TX4) (N := 21) inX4 0 rfl rfl 12 (by decide) m340 rfl dM_block_17 ?_
  refine j_iconst hg (v := 2) dM_block_20 (by decide) ?_
  refine j_ldc hg (v := 2036477234) m426 dM_block_21 ?_
  refine j_iast hg (ws' := [ob h 4 [.ref mt, .int (nI tn), .ref mo, .int (nI on), .ref mk, .ref mn, .ref mr, .int (nI rc), .ref mh, .ref mw, .ref mi, .ref mv, .ref mb, .ref ms, .ref mu, .ref mp, .ref mc, .ref mx, .ref mg, .ref ma, .int (nI tx)], aB E mk 32 fk, aB E mn 12 fn, aI E mv 16 v, aI E mb 16 (upd (upd (upd b 0 1634760805) 1 857760878) 2 2036477234), aB E ms 64 s]) 4 2 rfl rfl (by omega) (by omega) rfl dM_block_23 ?_
  refine j_aload_n hg 0 dM_block_24 rfl rfl ?_
  refine j_get hg (C := RX4) (T := TX4) (N := 21) inX4 0 rfl rfl 12 (by decide) m340 rfl dM_block_25 ?_
  refine j_iconst hg (v := 3) dM_block_28 (by decide) ?_
  refine j_ldc hg (v := 1797285236) m427 dM_block_29 ?_
  refine j_iast hg (ws' := [ob h 4 [.ref mt, .int (nI tn), .ref mo, .int (nI on), .ref mk, .ref mn, .ref mr, .int (nI rc), .ref mh, .ref mw, .ref mi, .ref mv, .ref mb, .ref ms, .ref mu, .ref mp, .ref mc, .ref mx, .ref mg, .ref ma, .int (nI tx)], aB E mk 32 fk, aB E mn 12 fn, aI E mv 16 v, aI E mb 16 (upd (upd (upd (upd b 0 1634760805) 1 857760878) 2 2036477234) 3 1797285236), aB E ms 64 s]) 4 3 rfl rfl (by omega) (by omega) rfl dM_block_31 ?_
  refine j_iconst hg (v := 0) dM_block_32 (by decide) ?_
  refine j_istore_n hg (lv' := [(2, .int 0), (0, .ref h), (1, .int c)]) dM_block_33 rfl (by decide) rfl ?_
  refine j_pick [1, 2, 0] (lv' := [(0, .ref h), (1, .int c), (2, .int 0)]) rfl ?_
  have loop : ∀ (zk i : Nat), i + zk = 8 → J E 5 g [ob h 4 [.ref mt, .int (nI tn), .ref mo, .int (nI on), .ref mk, .ref mn, .ref mr, .int (nI rc), .ref mh, .ref mw, .ref mi, .ref mv, .ref mb, .ref ms, .ref mu, .ref mp, .ref mc, .ref mx, .ref mg, .ref ma, .int (nI tx)], aB E mk 32 fk, aB E mn 12 fn, aI E mv 16 v, aI E mb 16 (layk fk (lay0 b) i), aB E ms 64 s] [(0, .ref h), (1, .int c), (2, .int (nI i))] 0 0 34 [] := by
    intro zk
    induction zk with
    | zero =>
      intro i  hi
      obtain rfl : 8 = i := by omega
      refine j_iload_n hg 2 dM_block_34 rfl rfl ?_
      refine j_bipush hg (v := 8) dM_block_35 (by decide) ?_
      refine j_nge_t hg (tgt := 64) 8 8 rfl rfl (by omega) (by omega) (by omega) dM_block_37 (by decide) ?_
      refine j_aload_n hg 0 dM_block_64 rfl rfl ?_
      refine j_get hg (C := RX4) (T := TX4) (N := 21) inX4 0 rfl rfl 12 (by decide) m340 rfl dM_block_65 ?_
      refine j_bipush hg (v := 12) dM_block_68 (by decide) ?_
      refine j_iload_n hg 1 dM_block_70 rfl rfl ?_
      refine j_iast hg (ws' := [ob h 4 [.ref mt, .int (nI tn), .ref mo, .int (nI on), .ref mk, .ref mn, .ref mr, .int (nI rc), .ref mh, .ref mw, .ref mi, .ref mv, .ref mb, .ref ms, .ref mu, .ref mp, .ref mc, .ref mx, .ref mg, .ref ma, .int (nI tx)], aB E mk 32 fk, aB E mn 12 fn, aI E mv 16 v, aI E mb 16 (upd (layk fk (lay0 b) 8) 12 c), aB E ms 64 s]) 4 12 rfl rfl (by omega) (by omega) rfl dM_block_71 ?_
      refine j_iconst hg (v := 0) dM_block_72 (by decide) ?_
      refine j_istore_n hg (lv' := [(2, .int 0), (0, .ref h), (1, .int c)]) dM_block_73 rfl (by decide) rfl ?_
      refine j_pick [1, 2, 0] (lv' := [(0, .ref h), (1, .int c), (2, .int 0)]) rfl ?_
      have loop2 : ∀ (zk i : Nat), i + zk = 3 → J E 5 g [ob h 4 [.ref mt, .int (nI tn), .ref mo, .int (nI on), .ref mk, .ref mn, .ref mr, .int (nI rc), .ref mh, .ref mw, .ref mi, .ref mv, .ref mb, .ref ms, .ref mu, .ref mp, .ref mc, .ref mx, .ref mg, .ref ma, .int (nI tx)], aB E mk 32 fk, aB E mn 12 fn, aI E mv 16 v, aI E mb 16 (layn fn (upd (layk fk (lay0 b) 8) 12 c) i), aB E ms 64 s] [(0, .ref h), (1, .int c), (2, .int (nI i))] 0 0 74 [] := by
        intro zk
        induction zk with
        | zero =>
          intro i  hi
          obtain rfl : 3 = i := by omega
          refine j_iload_n hg 2 dM_block_74 rfl rfl ?_
          refine j_iconst hg (v := 3) dM_block_75 (by decide) ?_
          refine j_nge_t hg (tgt := 104) 3 3 rfl rfl (by omega) (by omega) (by omega) dM_block_76 (by decide) ?_
          refine j_iconst hg (v := 0) dM_block_104 (by decide) ?_
          refine j_istore_n hg (lv' := [(2, .int 0), (0, .ref h), (1, .int c)]) dM_block_105 rfl (by decide) rfl ?_
          show J E 5 g [ob h 4 [.ref mt, .int (nI tn), .ref mo, .int (nI on), .ref mk, .ref mn, .ref mr, .int (nI rc), .ref mh, .ref mw, .ref mi, .ref mv, .ref mb, .ref ms, .ref mu, .ref mp, .ref mc, .ref mx, .ref mg, .ref ma, .int (nI tx)], aB E mk 32 fk, aB E mn 12 fn, aI E mv 16 v, aI E mb 16 (layF b fk fn c), aB E ms 64 s] [(2, .int 0), (0, .ref h), (1, .int c)] 0 0 106 []
          refine j_pick [1, 2, 0] (lv' := [(0, .ref h), (1, .int c), (2, .int 0)]) rfl ?_
          have loop3 : ∀ (zk i : Nat), i + zk = 16 → J E 5 g [ob h 4 [.ref mt, .int (nI tn), .ref mo, .int (nI on), .ref mk, .ref mn, .ref mr, .int (nI rc), .ref mh, .ref mw, .ref mi, .ref mv, .ref mb, .ref ms, .ref mu, .ref mp, .ref mc, .ref mx, .ref mg, .ref ma, .int (nI tx)], aB E mk 32 fk, aB E mn 12 fn, aI E mv 16 (cpN (layF b fk fn c) v i), aI E mb 16 (layF b fk fn c), aB E ms 64 s] [(0, .ref h), (1, .int c), (2, .int (nI i))] 0 0 106 [] := by
            intro zk
            induction zk with
            | zero =>
              intro i  hi
              obtain rfl : 16 = i := by omega
              refine j_iload_n hg 2 dM_block_106 rfl rfl ?_
              refine j_bipush hg (v := 16) dM_block_107 (by decide) ?_
              refine j_nge_t hg (tgt := 130) 16 16 rfl rfl (by omega) (by omega) (by omega) dM_block_109 (by decide) ?_
              refine j_iconst hg (v := 0) dM_block_130 (by decide) ?_
              refine j_istore_n hg (lv' := [(2, .int 0), (0, .ref h), (1, .int c)]) dM_block_131 rfl (by decide) rfl ?_
              refine j_pick [1, 2, 0] (lv' := [(0, .ref h), (1, .int c), (2, .int 0)]) rfl ?_
              have loop4 : ∀ (zk i : Nat), i + zk = 10 → J E 5 g [ob h 4 [.ref mt, .int (nI tn), .ref mo, .int (nI on), .ref mk, .ref mn, .ref mr, .int (nI rc), .ref mh, .ref mw, .ref mi, .ref mv, .ref mb, .ref ms, .ref mu, .ref mp, .ref mc, .ref mx, .ref mg, .ref ma, .int (nI tx)], aB E mk 32 fk, aB E mn 12 fn, aI E mv 16 (mrd (cpN (layF b fk fn c) v 16) i), aI E mb 16 (layF b fk fn c), aB E ms 64 s] [(0, .ref h), (1, .int c), (2, .int (nI i))] 0 0 132 [] := by
                intro zk
                induction zk with
                | zero =>
                  intro i  hi
                  obtain rfl : 10 = i := by omega
                  refine j_iload_n hg 2 dM_block_132 rfl rfl ?_
                  refine j_bipush hg (v := 10) dM_block_133 (by decide) ?_
                  refine j_nge_t hg (tgt := 214) 10 10 rfl rfl (by omega) (by omega) (by omega) dM_block_135 (by decide) ?_
                  refine j_iconst hg (v := 0) dM_block_214 (by decide) ?_
                  refine j_istore_n hg (lv' := [(2, .int 0), (0, .ref h), (1, .int c)]) dM_block_215 rfl (by decide) rfl ?_
                  show J E 5 g [ob h 4 [.ref mt, .int (nI tn), .ref mo, .int (nI on), .ref mk, .ref mn, .ref mr, .int (nI rc), .ref mh, .ref mw, .ref mi, .ref mv, .ref mb, .ref ms, .ref mu, .ref mp, .ref mc, .ref mx, .ref mg, .ref ma, .int (nI tx)], aB E mk 32 fk, aB E mn 12 fn, aI E mv 16 (mvF b v fk fn c), aI E mb 16 (layF b fk fn c), aB E ms 64 s] [(2, .int 0), (0, .ref h), (1, .int c)] 0 0 216 []
                  refine j_pick [1, 2, 0] (lv' := [(0, .ref h), (1, .int c), (2, .int 0)]) rfl ?_
                  have loop7 : ∀ (zk i : Nat), i + zk = 16 → J E 5 g [ob h 4 [.ref mt, .int (nI tn), .ref mo, .int (nI on), .ref mk, .ref mn, .ref mr, .int (nI rc), .ref mh, .ref mw, .ref mi, .ref mv, .ref mb, .ref ms, .ref mu, .ref mp, .ref mc, .ref mx, .ref mg, .ref ma, .int (nI tx)], aB E mk 32 fk, aB E mn 12 fn, aI E mv 16 (mvF b v fk fn c), aI E mb 16 (layF b fk fn c), aB E ms 64 (stm s (mvF b v fk fn c) (layF b fk fn c) i)] [(0, .ref h), (1, .int c), (2, .int (nI i))] 0 0 216 [] := by
                    intro zk
                    induction zk with
                    | zero =>
                      intro i  hi
                      obtain rfl : 16 = i := by omega
                      refine j_iload_n hg 2 dM_block_216 rfl rfl ?_
                      refine j_bipush hg (v := 16) dM_block_217 (by decide) ?_
                      refine j_nge_t hg (tgt := 276) 16 16 rfl rfl (by omega) (by omega) (by omega) dM_block_219 (by decide) ?_
                      exact j_vret hg hR () trivial rfl [0, 1, 2, 3, 4, 5] rfl (by decide) (by decide) (by decide) dM_block_276
                    | succ zk ih =>
                      intro i  hi
                      refine j_iload_n hg 2 dM_block_216 rfl rfl ?_
                      refine j_bipush hg (v := 16) dM_block_217 (by decide) ?_
                      refine j_nge_f hg (tgt := 276) i 16 rfl rfl (by omega) (by omega) (by omega) dM_block_219 (by decide) ?_
                      refine j_aload_n hg 0 dM_block_222 rfl rfl ?_
                      refine j_get hg (C := RX4) (T := TX4) (N := 21) inX4 0 rfl rfl 11 (by decide) m339 rfl dM_block_223 ?_
                      refine j_iload_n hg 2 dM_block_226 rfl rfl ?_
                      refine j_iald hg (v := (mvF b v fk fn c) i) 3 i rfl rfl (by omega) (by omega) rfl dM_block_227 ?_
                      refine j_aload_n hg 0 dM_block_228 rfl rfl ?_
                      refine j_get hg (C := RX4) (T := TX4) (N := 21) inX4 0 rfl rfl 12 (by decide) m340 rfl dM_block_229 ?_
                      refine j_iload_n hg 2 dM_block_232 rfl rfl ?_
                      refine j_iald hg (v := (layF b fk fn c) i) 4 i rfl rfl (by omega) (by omega) rfl dM_block_233 ?_
                      refine j_iadd hg (v := ((mvF b v fk fn c) i) + ((layF b fk fn c) i)) dM_block_234 rfl ?_
                      refine j_istore_n hg (lv' := [(3, .int (((mvF b v fk fn c) i) + ((layF b fk fn c) i))), (0, .ref h), (1, .int c), (2, .int (nI i))]) dM_block_235 rfl (by decide) rfl ?_
                      refine j_iconst hg (v := 0) dM_block_236 (by decide) ?_
                      refine j_istore hg (lv' := [(4, .int 0), (3, .int (((mvF b v fk fn c) i) + ((layF b fk fn c) i))), (0, .ref h), (1, .int c), (2, .int (nI i))]) dM_block_237 (by decide) rfl ?_
                      refine j_pick [2, 3, 4, 1, 0] (lv' := [(0, .ref h), (1, .int c), (2, .int (nI i)), (3, .int (((mvF b v fk fn c) i) + ((layF b fk fn c) i))), (4, .int 0)]) rfl ?_
                      have loop8 : ∀ (zk j : Nat), j + zk = 4 → J E 5 g [ob h 4 [.ref mt, .int (nI tn), .ref mo, .int (nI on), .ref mk, .ref mn, .ref mr, .int (nI rc), .ref mh, .ref mw, .ref mi, .ref mv, .ref mb, .ref ms, .ref mu, .ref mp, .ref mc, .ref mx, .ref mg, .ref ma, .int (nI tx)], aB E mk 32 fk, aB E mn 12 fn, aI E mv 16 (mvF b v fk fn c), aI E mb 16 (layF b fk fn c), aB E ms 64 (st4 (stm s (mvF b v fk fn c) (layF b fk fn c) i) i ((mvF b v fk fn c) i + (layF b fk fn c) i) j)] [(0, .ref h), (1, .int c), (2, .int (nI i)), (3, .int ((mvF b v fk fn c) i + (layF b fk fn c) i)), (4, .int (nI j))] 0 0 239 [] := by
                        intro zk
                        induction zk with
                        | zero =>
                          intro j  hi
                          obtain rfl : 4 = j := by omega
                          refine j_iload hg 4 dM_block_239 rfl ?_
                          refine j_iconst hg (v := 4) dM_block_241 (by decide) ?_
                          refine j_nge_t hg (tgt := 270) 4 4 rfl rfl (by omega) (by omega) (by omega) dM_block_242 (by decide) ?_
                          refine j_iinc hg (kq := 2) (v := nI (i + 1)) (lv' := [(2, .int (nI (i + 1))), (0, .ref h), (1, .int c), (3, .int ((mvF b v fk fn c) i + (layF b fk fn c) i)), (4, .int 4)]) dM_block_270 rfl (nI_add i 1) (by decide) rfl ?_
                          refine j_goto hg (tgt := 216) dM_block_273 (by decide) ?_
                          refine j_pick [1, 2, 0] (lv' := [(0, .ref h), (1, .int c), (2, .int (nI (i + 1)))]) rfl ?_
                          exact ih (i + 1) (by omega)
                        | succ zk ih =>
                          intro j  hi
                          refine j_iload hg 4 dM_block_239 rfl ?_
                          refine j_iconst hg (v := 4) dM_block_241 (by decide) ?_
                          refine j_nge_f hg (tgt := 270) j 4 rfl rfl (by omega) (by omega) (by omega) dM_block_242 (by decide) ?_
                          refine j_aload_n hg 0 dM_block_245 rfl rfl ?_
                          refine j_get hg (C := RX4) (T := TX4) (N := 21) inX4 0 rfl rfl 13 (by decide) m341 rfl dM_block_246 ?_
                          refine j_iconst hg (v := 4) dM_block_249 (by decide) ?_
                          refine j_iload_n hg 2 dM_block_250 rfl rfl ?_
                          refine j_imul hg (v := nI (4 * i)) dM_block_251 (pk_mul 4 i) ?_
                          refine j_iload hg 4 dM_block_252 rfl ?_
                          refine j_iadd hg (v := nI (4 * i + j)) dM_block_254 (nI_add (4 * i) j) ?_
                          refine j_iload_n hg 3 dM_block_255 rfl rfl ?_
                          refine j_bipush hg (v := 8) dM_block_256 (by decide) ?_
                          refine j_iload hg 4 dM_block_258 rfl ?_
                          refine j_imul hg (v := nI (8 * j)) dM_block_260 (pk_mul 8 j) ?_
                          refine j_ishr hg (v := shr ((mvF b v fk fn c) i + (layF b fk fn c) i) (nI (8 * j))) dM_block_261 rfl ?_
                          refine j_i2b hg (v := sB (shr ((mvF b v fk fn c) i + (layF b fk fn c) i) (nI (8 * j)))) dM_block_262 rfl ?_
                          refine j_bast hg (ws' := [ob h 4 [.ref mt, .int (nI tn), .ref mo, .int (nI on), .ref mk, .ref mn, .ref mr, .int (nI rc), .ref mh, .ref mw, .ref mi, .ref mv, .ref mb, .ref ms, .ref mu, .ref mp, .ref mc, .ref mx, .ref mg, .ref ma, .int (nI tx)], aB E mk 32 fk, aB E mn 12 fn, aI E mv 16 (mvF b v fk fn c), aI E mb 16 (layF b fk fn c), aB E ms 64 (upd (st4 (stm s (mvF b v fk fn c) (layF b fk fn c) i) i ((mvF b v fk fn c) i + (layF b fk fn c) i) j) (4 * i + j) (sB (shr ((mvF b v fk fn c) i + (layF b fk fn c) i) (nI (8 * j)))))]) 5 (4 * i + j) rfl rfl (by omega) (by omega) (sB_nar _) rfl dM_block_263 ?_
                          refine j_iinc hg (kq := 4) (v := nI (j + 1)) (lv' := [(4, .int (nI (j + 1))), (0, .ref h), (1, .int c), (2, .int (nI i)), (3, .int ((mvF b v fk fn c) i + (layF b fk fn c) i))]) dM_block_264 rfl (nI_add j 1) (by decide) rfl ?_
                          refine j_goto hg (tgt := 239) dM_block_267 (by decide) ?_
                          refine j_pick [1, 2, 3, 4, 0] (lv' := [(0, .ref h), (1, .int c), (2, .int (nI i)), (3, .int ((mvF b v fk fn c) i + (layF b fk fn c) i)), (4, .int (nI (j + 1)))]) rfl ?_
                          exact ih (j + 1) (by omega)
                      exact loop8 (4) 0 (by omega)
                  exact loop7 (16) 0 (by omega)
                | succ zk ih =>
                  intro i  hi
                  refine j_iload_n hg 2 dM_block_132 rfl rfl ?_
                  refine j_bipush hg (v := 10) dM_block_133 (by decide) ?_
                  refine j_nge_f hg (tgt := 214) i 10 rfl rfl (by omega) (by omega) (by omega) dM_block_135 (by decide) ?_
                  refine j_iconst hg (v := 0) dM_block_138 (by decide) ?_
                  refine j_istore_n hg (lv' := [(3, .int 0), (0, .ref h), (1, .int c), (2, .int (nI i))]) dM_block_139 rfl (by decide) rfl ?_
                  refine j_pick [1, 2, 3, 0] (lv' := [(0, .ref h), (1, .int c), (2, .int (nI i)), (3, .int 0)]) rfl ?_
                  have loop5 : ∀ (zk j : Nat), j + zk = 4 → J E 5 g [ob h 4 [.ref mt, .int (nI tn), .ref mo, .int (nI on), .ref mk, .ref mn, .ref mr, .int (nI rc), .ref mh, .ref mw, .ref mi, .ref mv, .ref mb, .ref ms, .ref mu, .ref mp, .ref mc, .ref mx, .ref mg, .ref ma, .int (nI tx)], aB E mk 32 fk, aB E mn 12 fn, aI E mv 16 (mcol (mrd (cpN (layF b fk fn c) v 16) i) j), aI E mb 16 (layF b fk fn c), aB E ms 64 s] [(0, .ref h), (1, .int c), (2, .int (nI i)), (3, .int (nI j))] 0 0 140 [] := by
                    intro zk
                    induction zk with
                    | zero =>
                      intro j  hi
                      obtain rfl : 4 = j := by omega
                      refine j_iload_n hg 3 dM_block_140 rfl rfl ?_
                      refine j_iconst hg (v := 4) dM_block_141 (by decide) ?_
                      refine j_nge_t hg (tgt := 167) 4 4 rfl rfl (by omega) (by omega) (by omega) dM_block_142 (by decide) ?_
                      refine j_iconst hg (v := 0) dM_block_167 (by decide) ?_
                      refine j_istore_n hg (lv' := [(3, .int 0), (0, .ref h), (1, .int c), (2, .int (nI i))]) dM_block_168 rfl (by decide) rfl ?_
                      refine j_pick [1, 2, 3, 0] (lv' := [(0, .ref h), (1, .int c), (2, .int (nI i)), (3, .int 0)]) rfl ?_
                      have loop6 : ∀ (zk j : Nat), j + zk = 4 → J E 5 g [ob h 4 [.ref mt, .int (nI tn), .ref mo, .int (nI on), .ref mk, .ref mn, .ref mr, .int (nI rc), .ref mh, .ref mw, .ref mi, .ref mv, .ref mb, .ref ms, .ref mu, .ref mp, .ref mc, .ref mx, .ref mg, .ref ma, .int (nI tx)], aB E mk 32 fk, aB E mn 12 fn, aI E mv 16 (mdia (mcol (mrd (cpN (layF b fk fn c) v 16) i) 4) j), aI E mb 16 (layF b fk fn c), aB E ms 64 s] [(0, .ref h), (1, .int c), (2, .int (nI i)), (3, .int (nI j))] 0 0 169 [] := by
                        intro zk
                        induction zk with
                        | zero =>
                          intro j  hi
                          obtain rfl : 4 = j := by omega
                          refine j_iload_n hg 3 dM_block_169 rfl rfl ?_
                          refine j_iconst hg (v := 4) dM_block_170 (by decide) ?_
                          refine j_nge_t hg (tgt := 208) 4 4 rfl rfl (by omega) (by omega) (by omega) dM_block_171 (by decide) ?_
                          refine j_iinc hg (kq := 2) (v := nI (i + 1)) (lv' := [(2, .int (nI (i + 1))), (0, .ref h), (1, .int c), (3, .int 4)]) dM_block_208 rfl (nI_add i 1) (by decide) rfl ?_
                          refine j_goto hg (tgt := 132) dM_block_211 (by decide) ?_
                          refine j_pick [1, 2, 0] (lv' := [(0, .ref h), (1, .int c), (2, .int (nI (i + 1)))]) rfl ?_
                          exact ih (i + 1) (by omega)
                        | succ zk ih =>
                          intro j  hi
                          refine j_iload_n hg 3 dM_block_169 rfl rfl ?_
                          refine j_iconst hg (v := 4) dM_block_170 (by decide) ?_
                          refine j_nge_f hg (tgt := 208) j 4 rfl rfl (by omega) (by omega) (by omega) dM_block_171 (by decide) ?_
                          refine j_aload_n hg 0 dM_block_174 rfl rfl ?_
                          refine j_iload_n hg 3 dM_block_175 rfl rfl ?_
                          refine j_iconst hg (v := 4) dM_block_176 (by decide) ?_
                          refine j_iload_n hg 3 dM_block_177 rfl rfl ?_
                          refine j_iconst hg (v := 1) dM_block_178 (by decide) ?_
                          refine j_iadd hg (v := nI (j + 1)) dM_block_179 (nI_add j 1) ?_
                          refine j_iconst hg (v := 4) dM_block_180 (by decide) ?_
                          refine j_irem hg (v := nI ((j + 1) % 4)) dM_block_181 (by decide) (pk_rem (a := j + 1) (d := 4) (by omega) (by decide) (by decide)) ?_
                          refine j_iadd hg (v := nI (4 + ((j + 1) % 4))) dM_block_182 (nI_add 4 ((j + 1) % 4)) ?_
                          refine j_bipush hg (v := 8) dM_block_183 (by decide) ?_
                          refine j_iload_n hg 3 dM_block_185 rfl rfl ?_
                          refine j_iconst hg (v := 2) dM_block_186 (by decide) ?_
                          refine j_iadd hg (v := nI (j + 2)) dM_block_187 (nI_add j 2) ?_
                          refine j_iconst hg (v := 4) dM_block_188 (by decide) ?_
                          refine j_irem hg (v := nI ((j + 2) % 4)) dM_block_189 (by decide) (pk_rem (a := j + 2) (d := 4) (by omega) (by decide) (by decide)) ?_
                          refine j_iadd hg (v := nI (8 + ((j + 2) % 4))) dM_block_190 (nI_add 8 ((j + 2) % 4)) ?_
                          refine j_bipush hg (v := 12) dM_block_191 (by decide) ?_
                          refine j_iload_n hg 3 dM_block_193 rfl rfl ?_
                          refine j_iconst hg (v := 3) dM_block_194 (by decide) ?_
                          refine j_iadd hg (v := nI (j + 3)) dM_block_195 (nI_add j 3) ?_
                          refine j_iconst hg (v := 4) dM_block_196 (by decide) ?_
                          refine j_irem hg (v := nI ((j + 3) % 4)) dM_block_197 (by decide) (pk_rem (a := j + 3) (d := 4) (by omega) (by decide) (by decide)) ?_
                          refine j_iadd hg (v := nI (12 + ((j + 3) % 4))) dM_block_198 (nI_add 12 ((j + 3) % 4)) ?_
                          refine j_callV hg (n := 4) (y := yM_mix) (rm := rm_M_mix) (Ws := (cT yM_mix cM_mix 5 none)) (As := [.int (nI j), .int (nI (4 + ((j + 1) % 4))), .int (nI (8 + ((j + 2) % 4))), .int (nI (12 + ((j + 3) % 4)))]) (rest := []) (wr := [aB E mk 32 fk, aB E mn 12 fn, aI E mb 16 (layF b fk fn c), aB E ms 64 s]) 0 rfl rfl (c_M_mix l E h mt mo mk mn mr mh mw mi mv mb ms mu mp mc mx mg ma tn on rc tx (mdia (mcol (mrd (cpN (layF b fk fn c) v 16) i) 4) j) j (4 + ((j + 1) % 4)) (8 + ((j + 2) % 4)) (12 + ((j + 3) % 4)) (by omega) (by omega) (by omega) (by omega)) (gdV m431 m433 ms20 m5 m434) rfl (by decide +kernel) ⟨by decide, by decide⟩ rfl rfl (Nat.le_of_ble_eq_true rfl) ⟨by decide, by decide⟩ [0, 3] [1, 2, 4, 5] rfl rfl (by decide) (by decide) (by decide) dM_block_199 (fun _ _ => ?_)
                          show J E 5 g [aB E mk 32 fk, aB E mn 12 fn, aI E mb 16 (layF b fk fn c), aB E ms 64 s, ob h 4 [.ref mt, .int (nI tn), .ref mo, .int (nI on), .ref mk, .ref mn, .ref mr, .int (nI rc), .ref mh, .ref mw, .ref mi, .ref mv, .ref mb, .ref ms, .ref mu, .ref mp, .ref mc, .ref mx, .ref mg, .ref ma, .int (nI tx)], aI E mv 16 (qr (mdia (mcol (mrd (cpN (layF b fk fn c) v 16) i) 4) j) j (4 + ((j + 1) % 4)) (8 + ((j + 2) % 4)) (12 + ((j + 3) % 4)))] [(0, .ref h), (1, .int c), (2, .int (nI i)), (3, .int (nI j))] 0 0 202 []
                          refine j_iinc hg (kq := 3) (v := nI (j + 1)) (lv' := [(3, .int (nI (j + 1))), (0, .ref h), (1, .int c), (2, .int (nI i))]) dM_block_202 rfl (nI_add j 1) (by decide) rfl ?_
                          refine j_goto hg (tgt := 169) dM_block_205 (by decide) ?_
                          refine j_sub [4, 0, 1, 5, 2, 3] (ws' := [ob h 4 [.ref mt, .int (nI tn), .ref mo, .int (nI on), .ref mk, .ref mn, .ref mr, .int (nI rc), .ref mh, .ref mw, .ref mi, .ref mv, .ref mb, .ref ms, .ref mu, .ref mp, .ref mc, .ref mx, .ref mg, .ref ma, .int (nI tx)], aB E mk 32 fk, aB E mn 12 fn, aI E mv 16 (qr (mdia (mcol (mrd (cpN (layF b fk fn c) v 16) i) 4) j) j (4 + ((j + 1) % 4)) (8 + ((j + 2) % 4)) (12 + ((j + 3) % 4))), aI E mb 16 (layF b fk fn c), aB E ms 64 s]) rfl (by decide) ?_
                          refine j_pick [1, 2, 3, 0] (lv' := [(0, .ref h), (1, .int c), (2, .int (nI i)), (3, .int (nI (j + 1)))]) rfl ?_
                          exact ih (j + 1) (by omega)
                      exact loop6 (4) 0 (by omega)
                    | succ zk ih =>
                      intro j  hi
                      refine j_iload_n hg 3 dM_block_140 rfl rfl ?_
                      refine j_iconst hg (v := 4) dM_block_141 (by decide) ?_
                      refine j_nge_f hg (tgt := 167) j 4 rfl rfl (by omega) (by omega) (by omega) dM_block_142 (by decide) ?_
                      refine j_aload_n hg 0 dM_block_145 rfl rfl ?_
                      refine j_iload_n hg 3 dM_block_146 rfl rfl ?_
                      refine j_iconst hg (v := 4) dM_block_147 (by decide) ?_
                      refine j_iload_n hg 3 dM_block_148 rfl rfl ?_
                      refine j_iadd hg (v := nI (4 + j)) dM_block_149 (nI_add 4 j) ?_
                      refine j_bipush hg (v := 8) dM_block_150 (by decide) ?_
                      refine j_iload_n hg 3 dM_block_152 rfl rfl ?_
                      refine j_iadd hg (v := nI (8 + j)) dM_block_153 (nI_add 8 j) ?_
                      refine j_bipush hg (v := 12) dM_block_154 (by decide) ?_
                      refine j_iload_n hg 3 dM_block_156 rfl rfl ?_
                      refine j_iadd hg (v := nI (12 + j)) dM_block_157 (nI_add 12 j) ?_
                      refine j_callV hg (n := 4) (y := yM_mix) (rm := rm_M_mix) (Ws := (cT yM_mix cM_mix 5 none)) (As := [.int (nI j), .int (nI (4 + j)), .int (nI (8 + j)), .int (nI (12 + j))]) (rest := []) (wr := [aB E mk 32 fk, aB E mn 12 fn, aI E mb 16 (layF b fk fn c), aB E ms 64 s]) 0 rfl rfl (c_M_mix l E h mt mo mk mn mr mh mw mi mv mb ms mu mp mc mx mg ma tn on rc tx (mcol (mrd (cpN (layF b fk fn c) v 16) i) j) j (4 + j) (8 + j) (12 + j) (by omega) (by omega) (by omega) (by omega)) (gdV m431 m433 ms20 m5 m434) rfl (by decide +kernel) ⟨by decide, by decide⟩ rfl rfl (Nat.le_of_ble_eq_true rfl) ⟨by decide, by decide⟩ [0, 3] [1, 2, 4, 5] rfl rfl (by decide) (by decide) (by decide) dM_block_158 (fun _ _ => ?_)
                      show J E 5 g [aB E mk 32 fk, aB E mn 12 fn, aI E mb 16 (layF b fk fn c), aB E ms 64 s, ob h 4 [.ref mt, .int (nI tn), .ref mo, .int (nI on), .ref mk, .ref mn, .ref mr, .int (nI rc), .ref mh, .ref mw, .ref mi, .ref mv, .ref mb, .ref ms, .ref mu, .ref mp, .ref mc, .ref mx, .ref mg, .ref ma, .int (nI tx)], aI E mv 16 (qr (mcol (mrd (cpN (layF b fk fn c) v 16) i) j) j (4 + j) (8 + j) (12 + j))] [(0, .ref h), (1, .int c), (2, .int (nI i)), (3, .int (nI j))] 0 0 161 []
                      refine j_iinc hg (kq := 3) (v := nI (j + 1)) (lv' := [(3, .int (nI (j + 1))), (0, .ref h), (1, .int c), (2, .int (nI i))]) dM_block_161 rfl (nI_add j 1) (by decide) rfl ?_
                      refine j_goto hg (tgt := 140) dM_block_164 (by decide) ?_
                      refine j_sub [4, 0, 1, 5, 2, 3] (ws' := [ob h 4 [.ref mt, .int (nI tn), .ref mo, .int (nI on), .ref mk, .ref mn, .ref mr, .int (nI rc), .ref mh, .ref mw, .ref mi, .ref mv, .ref mb, .ref ms, .ref mu, .ref mp, .ref mc, .ref mx, .ref mg, .ref ma, .int (nI tx)], aB E mk 32 fk, aB E mn 12 fn, aI E mv 16 (qr (mcol (mrd (cpN (layF b fk fn c) v 16) i) j) j (4 + j) (8 + j) (12 + j)), aI E mb 16 (layF b fk fn c), aB E ms 64 s]) rfl (by decide) ?_
                      refine j_pick [1, 2, 3, 0] (lv' := [(0, .ref h), (1, .int c), (2, .int (nI i)), (3, .int (nI (j + 1)))]) rfl ?_
                      exact ih (j + 1) (by omega)
                  exact loop5 (4) 0 (by omega)
              exact loop4 (10) 0 (by omega)
            | succ zk ih =>
              intro i  hi
              refine j_iload_n hg 2 dM_block_106 rfl rfl ?_
              refine j_bipush hg (v := 16) dM_block_107 (by decide) ?_
              refine j_nge_f hg (tgt := 130) i 16 rfl rfl (by omega) (by omega) (by omega) dM_block_109 (by decide) ?_
              refine j_aload_n hg 0 dM_block_112 rfl rfl ?_
              refine j_get hg (C := RX4) (T := TX4) (N := 21) inX4 0 rfl rfl 11 (by decide) m339 rfl dM_block_113 ?_
              refine j_iload_n hg 2 dM_block_116 rfl rfl ?_
              refine j_aload_n hg 0 dM_block_117 rfl rfl ?_
              refine j_get hg (C := RX4) (T := TX4) (N := 21) inX4 0 rfl rfl 12 (by decide) m340 rfl dM_block_118 ?_
              refine j_iload_n hg 2 dM_block_121 rfl rfl ?_
              refine j_iald hg (v := (layF b fk fn c) i) 4 i rfl rfl (by omega) (by omega) rfl dM_block_122 ?_
              refine j_iast hg (ws' := [ob h 4 [.ref mt, .int (nI tn), .ref mo, .int (nI on), .ref mk, .ref mn, .ref mr, .int (nI rc), .ref mh, .ref mw, .ref mi, .ref mv, .ref mb, .ref ms, .ref mu, .ref mp, .ref mc, .ref mx, .ref mg, .ref ma, .int (nI tx)], aB E mk 32 fk, aB E mn 12 fn, aI E mv 16 (upd (cpN (layF b fk fn c) v i) i ((layF b fk fn c) i)), aI E mb 16 (layF b fk fn c), aB E ms 64 s]) 3 i rfl rfl (by omega) (by omega) rfl dM_block_123 ?_
              refine j_iinc hg (kq := 2) (v := nI (i + 1)) (lv' := [(2, .int (nI (i + 1))), (0, .ref h), (1, .int c)]) dM_block_124 rfl (nI_add i 1) (by decide) rfl ?_
              refine j_goto hg (tgt := 106) dM_block_127 (by decide) ?_
              refine j_pick [1, 2, 0] (lv' := [(0, .ref h), (1, .int c), (2, .int (nI (i + 1)))]) rfl ?_
              exact ih (i + 1) (by omega)
          exact loop3 (16) 0 (by omega)
        | succ zk ih =>
          intro i  hi
          refine j_iload_n hg 2 dM_block_74 rfl rfl ?_
          refine j_iconst hg (v := 3) dM_block_75 (by decide) ?_
          refine j_nge_f hg (tgt := 104) i 3 rfl rfl (by omega) (by omega) (by omega) dM_block_76 (by decide) ?_
          refine j_aload_n hg 0 dM_block_79 rfl rfl ?_
          refine j_get hg (C := RX4) (T := TX4) (N := 21) inX4 0 rfl rfl 12 (by decide) m340 rfl dM_block_80 ?_
          refine j_bipush hg (v := 13) dM_block_83 (by decide) ?_
          refine j_iload_n hg 2 dM_block_85 rfl rfl ?_
          refine j_iadd hg (v := nI (13 + i)) dM_block_86 (nI_add 13 i) ?_
          refine j_aload_n hg 0 dM_block_87 rfl rfl ?_
          refine j_get hg (C := RX4) (T := TX4) (N := 21) inX4 0 rfl rfl 5 (by decide) m333 rfl dM_block_88 ?_
          refine j_iconst hg (v := 4) dM_block_91 (by decide) ?_
          refine j_iload_n hg 2 dM_block_92 rfl rfl ?_
          refine j_imul hg (v := nI (4 * i)) dM_block_93 (pk_mul 4 i) ?_
          refine j_callS hg (n := 2) (y := yM_low) (rm := rm_M_low) (Ws := (cT yM_low cM_low 2 (some .int))) (As := [.ref mn, .int (nI (4 * i))]) (rest := [.int (nI (13 + i)), .ref mb]) (wr := [ob h 4 [.ref mt, .int (nI tn), .ref mo, .int (nI on), .ref mk, .ref mn, .ref mr, .int (nI rc), .ref mh, .ref mw, .ref mi, .ref mv, .ref mb, .ref ms, .ref mu, .ref mp, .ref mc, .ref mx, .ref mg, .ref ma, .int (nI tx)], aB E mk 32 fk, aI E mv 16 v, aI E mb 16 (layn fn (upd (layk fk (lay0 b) 8) 12 c) i), aB E ms 64 s]) (c_M_low l E mn 12 fn (4 * i) (by omega) (by omega)) (gdS m428 m429 m5 m430) rfl (by decide +kernel) ⟨by decide, by decide⟩ rfl rfl (Nat.le_of_ble_eq_true rfl) ⟨by decide, by decide⟩ [2] [0, 1, 3, 4, 5] rfl rfl (by decide) (by decide) (by decide) dM_block_94 (fun _ _ => ?_)
          show J E 5 g [ob h 4 [.ref mt, .int (nI tn), .ref mo, .int (nI on), .ref mk, .ref mn, .ref mr, .int (nI rc), .ref mh, .ref mw, .ref mi, .ref mv, .ref mb, .ref ms, .ref mu, .ref mp, .ref mc, .ref mx, .ref mg, .ref ma, .int (nI tx)], aB E mk 32 fk, aI E mv 16 v, aI E mb 16 (layn fn (upd (layk fk (lay0 b) 8) 12 c) i), aB E ms 64 s, aB E mn 12 fn] [(0, .ref h), (1, .int c), (2, .int (nI i))] 0 0 97 [.int (rl fn (4 * i)), .int (nI (13 + i)), .ref mb]
          refine j_iast hg (ws' := [ob h 4 [.ref mt, .int (nI tn), .ref mo, .int (nI on), .ref mk, .ref mn, .ref mr, .int (nI rc), .ref mh, .ref mw, .ref mi, .ref mv, .ref mb, .ref ms, .ref mu, .ref mp, .ref mc, .ref mx, .ref mg, .ref ma, .int (nI tx)], aB E mk 32 fk, aI E mv 16 v, aI E mb 16 (upd (layn fn (upd (layk fk (lay0 b) 8) 12 c) i) (13 + i) (rl fn (4 * i))), aB E ms 64 s, aB E mn 12 fn]) 3 (13 + i) rfl rfl (by omega) (by omega) rfl dM_block_97 ?_
          refine j_iinc hg (kq := 2) (v := nI (i + 1)) (lv' := [(2, .int (nI (i + 1))), (0, .ref h), (1, .int c)]) dM_block_98 rfl (nI_add i 1) (by decide) rfl ?_
          refine j_goto hg (tgt := 74) dM_block_101 (by decide) ?_
          refine j_sub [0, 1, 5, 2, 3, 4] (ws' := [ob h 4 [.ref mt, .int (nI tn), .ref mo, .int (nI on), .ref mk, .ref mn, .ref mr, .int (nI rc), .ref mh, .ref mw, .ref mi, .ref mv, .ref mb, .ref ms, .ref mu, .ref mp, .ref mc, .ref mx, .ref mg, .ref ma, .int (nI tx)], aB E mk 32 fk, aB E mn 12 fn, aI E mv 16 v, aI E mb 16 (upd (layn fn (upd (layk fk (lay0 b) 8) 12 c) i) (13 + i) (rl fn (4 * i))), aB E ms 64 s]) rfl (by decide) ?_
          refine j_pick [1, 2, 0] (lv' := [(0, .ref h), (1, .int c), (2, .int (nI (i + 1)))]) rfl ?_
          exact ih (i + 1) (by omega)
      exact loop2 (3) 0 (by omega)
    | succ zk ih =>
      intro i  hi
      refine j_iload_n hg 2 dM_block_34 rfl rfl ?_
      refine j_bipush hg (v := 8) dM_block_35 (by decide) ?_
      refine j_nge_f hg (tgt := 64) i 8 rfl rfl (by omega) (by omega) (by omega) dM_block_37 (by decide) ?_
      refine j_aload_n hg 0 dM_block_40 rfl rfl ?_
      refine j_get hg (C := RX4) (T := TX4) (N := 21) inX4 0 rfl rfl 12 (by decide) m340 rfl dM_block_41 ?_
      refine j_iconst hg (v := 4) dM_block_44 (by decide) ?_
      refine j_iload_n hg 2 dM_block_45 rfl rfl ?_
      refine j_iadd hg (v := nI (4 + i)) dM_block_46 (nI_add 4 i) ?_
      refine j_aload_n hg 0 dM_block_47 rfl rfl ?_
      refine j_get hg (C := RX4) (T := TX4) (N := 21) inX4 0 rfl rfl 4 (by decide) m332 rfl dM_block_48 ?_
      refine j_iconst hg (v := 4) dM_block_51 (by decide) ?_
      refine j_iload_n hg 2 dM_block_52 rfl rfl ?_
      refine j_imul hg (v := nI (4 * i)) dM_block_53 (pk_mul 4 i) ?_
      refine j_callS hg (n := 2) (y := yM_low) (rm := rm_M_low) (Ws := (cT yM_low cM_low 2 (some .int))) (As := [.ref mk, .int (nI (4 * i))]) (rest := [.int (nI (4 + i)), .ref mb]) (wr := [ob h 4 [.ref mt, .int (nI tn), .ref mo, .int (nI on), .ref mk, .ref mn, .ref mr, .int (nI rc), .ref mh, .ref mw, .ref mi, .ref mv, .ref mb, .ref ms, .ref mu, .ref mp, .ref mc, .ref mx, .ref mg, .ref ma, .int (nI tx)], aB E mn 12 fn, aI E mv 16 v, aI E mb 16 (layk fk (lay0 b) i), aB E ms 64 s]) (c_M_low l E mk 32 fk (4 * i) (by omega) (by omega)) (gdS m428 m429 m5 m430) rfl (by decide +kernel) ⟨by decide, by decide⟩ rfl rfl (Nat.le_of_ble_eq_true rfl) ⟨by decide, by decide⟩ [1] [0, 2, 3, 4, 5] rfl rfl (by decide) (by decide) (by decide) dM_block_54 (fun _ _ => ?_)
      show J E 5 g [ob h 4 [.ref mt, .int (nI tn), .ref mo, .int (nI on), .ref mk, .ref mn, .ref mr, .int (nI rc), .ref mh, .ref mw, .ref mi, .ref mv, .ref mb, .ref ms, .ref mu, .ref mp, .ref mc, .ref mx, .ref mg, .ref ma, .int (nI tx)], aB E mn 12 fn, aI E mv 16 v, aI E mb 16 (layk fk (lay0 b) i), aB E ms 64 s, aB E mk 32 fk] [(0, .ref h), (1, .int c), (2, .int (nI i))] 0 0 57 [.int (rl fk (4 * i)), .int (nI (4 + i)), .ref mb]
      refine j_iast hg (ws' := [ob h 4 [.ref mt, .int (nI tn), .ref mo, .int (nI on), .ref mk, .ref mn, .ref mr, .int (nI rc), .ref mh, .ref mw, .ref mi, .ref mv, .ref mb, .ref ms, .ref mu, .ref mp, .ref mc, .ref mx, .ref mg, .ref ma, .int (nI tx)], aB E mn 12 fn, aI E mv 16 v, aI E mb 16 (upd (layk fk (lay0 b) i) (4 + i) (rl fk (4 * i))), aB E ms 64 s, aB E mk 32 fk]) 3 (4 + i) rfl rfl (by omega) (by omega) rfl dM_block_57 ?_
      refine j_iinc hg (kq := 2) (v := nI (i + 1)) (lv' := [(2, .int (nI (i + 1))), (0, .ref h), (1, .int c)]) dM_block_58 rfl (nI_add i 1) (by decide) rfl ?_
      refine j_goto hg (tgt := 34) dM_block_61 (by decide) ?_
      refine j_sub [0, 5, 1, 2, 3, 4] (ws' := [ob h 4 [.ref mt, .int (nI tn), .ref mo, .int (nI on), .ref mk, .ref mn, .ref mr, .int (nI rc), .ref mh, .ref mw, .ref mi, .ref mv, .ref mb, .ref ms, .ref mu, .ref mp, .ref mc, .ref mx, .ref mg, .ref ma, .int (nI tx)], aB E mk 32 fk, aB E mn 12 fn, aI E mv 16 v, aI E mb 16 (upd (layk fk (lay0 b) i) (4 + i) (rl fk (4 * i))), aB E ms 64 s]) rfl (by decide) ?_
      refine j_pick [1, 2, 0] (lv' := [(0, .ref h), (1, .int c), (2, .int (nI (i + 1)))]) rfl ?_
      exact ih (i + 1) (by omega)
  exact loop (8) 0 (by omega)
