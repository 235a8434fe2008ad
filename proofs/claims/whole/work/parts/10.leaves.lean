def rm_S_writeHighestFirst : Room := { frames := 0, cells := 0, slots := 0, locals := 0 }
set_option maxHeartbeats 1000000 in
set_option maxRecDepth 100000 in
theorem c_S_writeHighestFirst (l : Launch) (E : Ev) (a n : Nat) (f : Nat → Int32) (k : Nat) (v : Int32) (h1 : k + 4 ≤ n) (h2 : n < 2147483648) : MC E l yS_writeHighestFirst (cT yS_writeHighestFirst cS_writeHighestFirst 3 none) rm_S_writeHighestFirst [.ref a, .int (nI k), .int v] [aB E a n f] Unit (fun _ => True) (fun _ => none) (fun _ => [aB E a n (wh f k v)]) := by
  refine MC.of (cc := cS_writeHighestFirst) (nL := 3) (ret := none) (by decide) rfl cT_in (Nat.le_of_ble_eq_true rfl) (fun g hg hR => ?_)
  show J E 3 g [aB E a n f] [(0, .ref a), (1, .int (nI k)), (2, .int v)] 0 0 0 []
  refine j_aload_n hg 0 dS_writeHighestFirst_0 rfl rfl ?_
  refine j_iload_n hg 1 dS_writeHighestFirst_1 rfl rfl ?_
  refine j_iload_n hg 2 dS_writeHighestFirst_2 rfl rfl ?_
  refine j_bipush hg (v := 24) dS_writeHighestFirst_3 (by decide) ?_
  refine j_iushr hg (v := ushr v 24) dS_writeHighestFirst_5 rfl ?_
  refine j_i2b hg (v := sB (ushr v 24)) dS_writeHighestFirst_6 rfl ?_
  refine j_bast hg (ws' := [aB E a n (upd f k (sB (ushr v 24)))]) 0 k rfl rfl (by omega) (by omega) (sB_nar _) rfl dS_writeHighestFirst_7 ?_
  refine j_aload_n hg 0 dS_writeHighestFirst_8 rfl rfl ?_
  refine j_iload_n hg 1 dS_writeHighestFirst_9 rfl rfl ?_
  refine j_iconst hg (v := 1) dS_writeHighestFirst_10 (by decide) ?_
  refine j_iadd hg (v := nI (k + 1)) dS_writeHighestFirst_11 (nI_add k 1) ?_
  refine j_iload_n hg 2 dS_writeHighestFirst_12 rfl rfl ?_
  refine j_bipush hg (v := 16) dS_writeHighestFirst_13 (by decide) ?_
  refine j_iushr hg (v := ushr v 16) dS_writeHighestFirst_15 rfl ?_
  refine j_i2b hg (v := sB (ushr v 16)) dS_writeHighestFirst_16 rfl ?_
  refine j_bast hg (ws' := [aB E a n (upd (upd f k (sB (ushr v 24))) (k + 1) (sB (ushr v 16)))]) 0 (k + 1) rfl rfl (by omega) (by omega) (sB_nar _) rfl dS_writeHighestFirst_17 ?_
  refine j_aload_n hg 0 dS_writeHighestFirst_18 rfl rfl ?_
  refine j_iload_n hg 1 dS_writeHighestFirst_19 rfl rfl ?_
  refine j_iconst hg (v := 2) dS_writeHighestFirst_20 (by decide) ?_
  refine j_iadd hg (v := nI (k + 2)) dS_writeHighestFirst_21 (nI_add k 2) ?_
  refine j_iload_n hg 2 dS_writeHighestFirst_22 rfl rfl ?_
  refine j_bipush hg (v := 8) dS_writeHighestFirst_23 (by decide) ?_
  refine j_iushr hg (v := ushr v 8) dS_writeHighestFirst_25 rfl ?_
  refine j_i2b hg (v := sB (ushr v 8)) dS_writeHighestFirst_26 rfl ?_
  refine j_bast hg (ws' := [aB E a n (upd (upd (upd f k (sB (ushr v 24))) (k + 1) (sB (ushr v 16))) (k + 2) (sB (ushr v 8)))]) 0 (k + 2) rfl rfl (by omega) (by omega) (sB_nar _) rfl dS_writeHighestFirst_27 ?_
  refine j_aload_n hg 0 dS_writeHighestFirst_28 rfl rfl ?_
  refine j_iload_n hg 1 dS_writeHighestFirst_29 rfl rfl ?_
  refine j_iconst hg (v := 3) dS_writeHighestFirst_30 (by decide) ?_
  refine j_iadd hg (v := nI (k + 3)) dS_writeHighestFirst_31 (nI_add k 3) ?_
  refine j_iload_n hg 2 dS_writeHighestFirst_32 rfl rfl ?_
  refine j_i2b hg (v := sB v) dS_writeHighestFirst_33 rfl ?_
  refine j_bast hg (ws' := [aB E a n (upd (upd (upd (upd f k (sB (ushr v 24))) (k + 1) (sB (ushr v 16))) (k + 2) (sB (ushr v 8))) (k + 3) (sB v))]) 0 (k + 3) rfl rfl (by omega) (by omega) (sB_nar _) rfl dS_writeHighestFirst_34 ?_
  exact j_vret hg hR () trivial rfl [0] rfl (by decide) (by decide) (by decide) dS_writeHighestFirst_35

def rm_S_writeLowestFirst : Room := { frames := 0, cells := 0, slots := 0, locals := 0 }
set_option maxHeartbeats 1000000 in
set_option maxRecDepth 100000 in
theorem c_S_writeLowestFirst (l : Launch) (E : Ev) (a n : Nat) (f : Nat → Int32) (k : Nat) (v : Int32) (h1 : k + 4 ≤ n) (h2 : n < 2147483648) : MC E l yS_writeLowestFirst (cT yS_writeLowestFirst cS_writeLowestFirst 3 none) rm_S_writeLowestFirst [.ref a, .int (nI k), .int v] [aB E a n f] Unit (fun _ => True) (fun _ => none) (fun _ => [aB E a n (wl f k v)]) := by
  refine MC.of (cc := cS_writeLowestFirst) (nL := 3) (ret := none) (by decide) rfl cT_in (Nat.le_of_ble_eq_true rfl) (fun g hg hR => ?_)
  show J E 3 g [aB E a n f] [(0, .ref a), (1, .int (nI k)), (2, .int v)] 0 0 0 []
  refine j_aload_n hg 0 dS_writeLowestFirst_0 rfl rfl ?_
  refine j_iload_n hg 1 dS_writeLowestFirst_1 rfl rfl ?_
  refine j_iload_n hg 2 dS_writeLowestFirst_2 rfl rfl ?_
  refine j_i2b hg (v := sB v) dS_writeLowestFirst_3 rfl ?_
  refine j_bast hg (ws' := [aB E a n (upd f k (sB v))]) 0 k rfl rfl (by omega) (by omega) (sB_nar _) rfl dS_writeLowestFirst_4 ?_
  refine j_aload_n hg 0 dS_writeLowestFirst_5 rfl rfl ?_
  refine j_iload_n hg 1 dS_writeLowestFirst_6 rfl rfl ?_
  refine j_iconst hg (v := 1) dS_writeLowestFirst_7 (by decide) ?_
  refine j_iadd hg (v := nI (k + 1)) dS_writeLowestFirst_8 (nI_add k 1) ?_
  refine j_iload_n hg 2 dS_writeLowestFirst_9 rfl rfl ?_
  refine j_bipush hg (v := 8) dS_writeLowestFirst_10 (by decide) ?_
  refine j_iushr hg (v := ushr v 8) dS_writeLowestFirst_12 rfl ?_
  refine j_i2b hg (v := sB (ushr v 8)) dS_writeLowestFirst_13 rfl ?_
  refine j_bast hg (ws' := [aB E a n (upd (upd f k (sB v)) (k + 1) (sB (ushr v 8)))]) 0 (k + 1) rfl rfl (by omega) (by omega) (sB_nar _) rfl dS_writeLowestFirst_14 ?_
  refine j_aload_n hg 0 dS_writeLowestFirst_15 rfl rfl ?_
  refine j_iload_n hg 1 dS_writeLowestFirst_16 rfl rfl ?_
  refine j_iconst hg (v := 2) dS_writeLowestFirst_17 (by decide) ?_
  refine j_iadd hg (v := nI (k + 2)) dS_writeLowestFirst_18 (nI_add k 2) ?_
  refine j_iload_n hg 2 dS_writeLowestFirst_19 rfl rfl ?_
  refine j_bipush hg (v := 16) dS_writeLowestFirst_20 (by decide) ?_
  refine j_iushr hg (v := ushr v 16) dS_writeLowestFirst_22 rfl ?_
  refine j_i2b hg (v := sB (ushr v 16)) dS_writeLowestFirst_23 rfl ?_
  refine j_bast hg (ws' := [aB E a n (upd (upd (upd f k (sB v)) (k + 1) (sB (ushr v 8))) (k + 2) (sB (ushr v 16)))]) 0 (k + 2) rfl rfl (by omega) (by omega) (sB_nar _) rfl dS_writeLowestFirst_24 ?_
  refine j_aload_n hg 0 dS_writeLowestFirst_25 rfl rfl ?_
  refine j_iload_n hg 1 dS_writeLowestFirst_26 rfl rfl ?_
  refine j_iconst hg (v := 3) dS_writeLowestFirst_27 (by decide) ?_
  refine j_iadd hg (v := nI (k + 3)) dS_writeLowestFirst_28 (nI_add k 3) ?_
  refine j_iload_n hg 2 dS_writeLowestFirst_29 rfl rfl ?_
  refine j_bipush hg (v := 24) dS_writeLowestFirst_30 (by decide) ?_
  refine j_iushr hg (v := ushr v 24) dS_writeLowestFirst_32 rfl ?_
  refine j_i2b hg (v := sB (ushr v 24)) dS_writeLowestFirst_33 rfl ?_
  refine j_bast hg (ws' := [aB E a n (upd (upd (upd (upd f k (sB v)) (k + 1) (sB (ushr v 8))) (k + 2) (sB (ushr v 16))) (k + 3) (sB (ushr v 24)))]) 0 (k + 3) rfl rfl (by omega) (by omega) (sB_nar _) rfl dS_writeLowestFirst_34 ?_
  exact j_vret hg hR () trivial rfl [0] rfl (by decide) (by decide) (by decide) dS_writeLowestFirst_35

def rm_S_readHighestFirst : Room := { frames := 0, cells := 0, slots := 0, locals := 0 }
set_option maxHeartbeats 1000000 in
set_option maxRecDepth 100000 in
theorem c_S_readHighestFirst (l : Launch) (E : Ev) (a n : Nat) (f : Nat → Int32) (k : Nat) (h1 : k + 4 ≤ n) (h2 : n < 2147483648) : MC E l yS_readHighestFirst (cT yS_readHighestFirst cS_readHighestFirst 2 (some .int)) rm_S_readHighestFirst [.ref a, .int (nI k)] [aB E a n f] Unit (fun _ => True) (fun _ => some (.int (rh f k))) (fun _ => [aB E a n f]) := by
  refine MC.of (cc := cS_readHighestFirst) (nL := 2) (ret := (some .int)) (by decide) rfl cT_in (Nat.le_of_ble_eq_true rfl) (fun g hg hR => ?_)
  show J E 2 g [aB E a n f] [(0, .ref a), (1, .int (nI k))] 0 0 0 []
  refine j_aload_n hg 0 dS_readHighestFirst_0 rfl rfl ?_
  refine j_iload_n hg 1 dS_readHighestFirst_1 rfl rfl ?_
  refine j_bald hg (v := f k) 0 k rfl rfl (by omega) (by omega) rfl dS_readHighestFirst_2 ?_
  refine j_sipush hg (v := 255) dS_readHighestFirst_3 (by decide) ?_
  refine j_iand hg (v := (f k) &&& 255) dS_readHighestFirst_6 rfl ?_
  refine j_bipush hg (v := 24) dS_readHighestFirst_7 (by decide) ?_
  refine j_ishl hg (v := shl ((f k) &&& 255) 24) dS_readHighestFirst_9 rfl ?_
  refine j_aload_n hg 0 dS_readHighestFirst_10 rfl rfl ?_
  refine j_iload_n hg 1 dS_readHighestFirst_11 rfl rfl ?_
  refine j_iconst hg (v := 1) dS_readHighestFirst_12 (by decide) ?_
  refine j_iadd hg (v := nI (k + 1)) dS_readHighestFirst_13 (nI_add k 1) ?_
  refine j_bald hg (v := f (k + 1)) 0 (k + 1) rfl rfl (by omega) (by omega) rfl dS_readHighestFirst_14 ?_
  refine j_sipush hg (v := 255) dS_readHighestFirst_15 (by decide) ?_
  refine j_iand hg (v := (f (k + 1)) &&& 255) dS_readHighestFirst_18 rfl ?_
  refine j_bipush hg (v := 16) dS_readHighestFirst_19 (by decide) ?_
  refine j_ishl hg (v := shl ((f (k + 1)) &&& 255) 16) dS_readHighestFirst_21 rfl ?_
  refine j_ior hg (v := (shl ((f k) &&& 255) 24) ||| (shl ((f (k + 1)) &&& 255) 16)) dS_readHighestFirst_22 rfl ?_
  refine j_aload_n hg 0 dS_readHighestFirst_23 rfl rfl ?_
  refine j_iload_n hg 1 dS_readHighestFirst_24 rfl rfl ?_
  refine j_iconst hg (v := 2) dS_readHighestFirst_25 (by decide) ?_
  refine j_iadd hg (v := nI (k + 2)) dS_readHighestFirst_26 (nI_add k 2) ?_
  refine j_bald hg (v := f (k + 2)) 0 (k + 2) rfl rfl (by omega) (by omega) rfl dS_readHighestFirst_27 ?_
  refine j_sipush hg (v := 255) dS_readHighestFirst_28 (by decide) ?_
  refine j_iand hg (v := (f (k + 2)) &&& 255) dS_readHighestFirst_31 rfl ?_
  refine j_bipush hg (v := 8) dS_readHighestFirst_32 (by decide) ?_
  refine j_ishl hg (v := shl ((f (k + 2)) &&& 255) 8) dS_readHighestFirst_34 rfl ?_
  refine j_ior hg (v := ((shl ((f k) &&& 255) 24) ||| (shl ((f (k + 1)) &&& 255) 16)) ||| (shl ((f (k + 2)) &&& 255) 8)) dS_readHighestFirst_35 rfl ?_
  refine j_aload_n hg 0 dS_readHighestFirst_36 rfl rfl ?_
  refine j_iload_n hg 1 dS_readHighestFirst_37 rfl rfl ?_
  refine j_iconst hg (v := 3) dS_readHighestFirst_38 (by decide) ?_
  refine j_iadd hg (v := nI (k + 3)) dS_readHighestFirst_39 (nI_add k 3) ?_
  refine j_bald hg (v := f (k + 3)) 0 (k + 3) rfl rfl (by omega) (by omega) rfl dS_readHighestFirst_40 ?_
  refine j_sipush hg (v := 255) dS_readHighestFirst_41 (by decide) ?_
  refine j_iand hg (v := (f (k + 3)) &&& 255) dS_readHighestFirst_44 rfl ?_
  refine j_ior hg (v := (((shl ((f k) &&& 255) 24) ||| (shl ((f (k + 1)) &&& 255) 16)) ||| (shl ((f (k + 2)) &&& 255) 8)) ||| ((f (k + 3)) &&& 255)) dS_readHighestFirst_45 rfl ?_
  exact j_iret hg hR rfl () trivial rfl [0] rfl (by decide) (by decide) (by decide) dS_readHighestFirst_46

def rm_S_readLowestFirst : Room := { frames := 0, cells := 0, slots := 0, locals := 0 }
set_option maxHeartbeats 1000000 in
set_option maxRecDepth 100000 in
theorem c_S_readLowestFirst (l : Launch) (E : Ev) (a n : Nat) (f : Nat → Int32) (k : Nat) (h1 : k + 4 ≤ n) (h2 : n < 2147483648) : MC E l yS_readLowestFirst (cT yS_readLowestFirst cS_readLowestFirst 2 (some .int)) rm_S_readLowestFirst [.ref a, .int (nI k)] [aB E a n f] Unit (fun _ => True) (fun _ => some (.int (rl f k))) (fun _ => [aB E a n f]) := by
  refine MC.of (cc := cS_readLowestFirst) (nL := 2) (ret := (some .int)) (by decide) rfl cT_in (Nat.le_of_ble_eq_true rfl) (fun g hg hR => ?_)
  show J E 2 g [aB E a n f] [(0, .ref a), (1, .int (nI k))] 0 0 0 []
  refine j_aload_n hg 0 dS_readLowestFirst_0 rfl rfl ?_
  refine j_iload_n hg 1 dS_readLowestFirst_1 rfl rfl ?_
  refine j_bald hg (v := f k) 0 k rfl rfl (by omega) (by omega) rfl dS_readLowestFirst_2 ?_
  refine j_sipush hg (v := 255) dS_readLowestFirst_3 (by decide) ?_
  refine j_iand hg (v := (f k) &&& 255) dS_readLowestFirst_6 rfl ?_
  refine j_aload_n hg 0 dS_readLowestFirst_7 rfl rfl ?_
  refine j_iload_n hg 1 dS_readLowestFirst_8 rfl rfl ?_
  refine j_iconst hg (v := 1) dS_readLowestFirst_9 (by decide) ?_
  refine j_iadd hg (v := nI (k + 1)) dS_readLowestFirst_10 (nI_add k 1) ?_
  refine j_bald hg (v := f (k + 1)) 0 (k + 1) rfl rfl (by omega) (by omega) rfl dS_readLowestFirst_11 ?_
  refine j_sipush hg (v := 255) dS_readLowestFirst_12 (by decide) ?_
  refine j_iand hg (v := (f (k + 1)) &&& 255) dS_readLowestFirst_15 rfl ?_
  refine j_bipush hg (v := 8) dS_readLowestFirst_16 (by decide) ?_
  refine j_ishl hg (v := shl ((f (k + 1)) &&& 255) 8) dS_readLowestFirst_18 rfl ?_
  refine j_ior hg (v := ((f k) &&& 255) ||| (shl ((f (k + 1)) &&& 255) 8)) dS_readLowestFirst_19 rfl ?_
  refine j_aload_n hg 0 dS_readLowestFirst_20 rfl rfl ?_
  refine j_iload_n hg 1 dS_readLowestFirst_21 rfl rfl ?_
  refine j_iconst hg (v := 2) dS_readLowestFirst_22 (by decide) ?_
  refine j_iadd hg (v := nI (k + 2)) dS_readLowestFirst_23 (nI_add k 2) ?_
  refine j_bald hg (v := f (k + 2)) 0 (k + 2) rfl rfl (by omega) (by omega) rfl dS_readLowestFirst_24 ?_
  refine j_sipush hg (v := 255) dS_readLowestFirst_25 (by decide) ?_
  refine j_iand hg (v := (f (k + 2)) &&& 255) dS_readLowestFirst_28 rfl ?_
  refine j_bipush hg (v := 16) dS_readLowestFirst_29 (by decide) ?_
  refine j_ishl hg (v := shl ((f (k + 2)) &&& 255) 16) dS_readLowestFirst_31 rfl ?_
  refine j_ior hg (v := (((f k) &&& 255) ||| (shl ((f (k + 1)) &&& 255) 8)) ||| (shl ((f (k + 2)) &&& 255) 16)) dS_readLowestFirst_32 rfl ?_
  refine j_aload_n hg 0 dS_readLowestFirst_33 rfl rfl ?_
  refine j_iload_n hg 1 dS_readLowestFirst_34 rfl rfl ?_
  refine j_iconst hg (v := 3) dS_readLowestFirst_35 (by decide) ?_
  refine j_iadd hg (v := nI (k + 3)) dS_readLowestFirst_36 (nI_add k 3) ?_
  refine j_bald hg (v := f (k + 3)) 0 (k + 3) rfl rfl (by omega) (by omega) rfl dS_readLowestFirst_37 ?_
  refine j_sipush hg (v := 255) dS_readLowestFirst_38 (by decide) ?_
  refine j_iand hg (v := (f (k + 3)) &&& 255) dS_readLowestFirst_41 rfl ?_
  refine j_bipush hg (v := 24) dS_readLowestFirst_42 (by decide) ?_
  refine j_ishl hg (v := shl ((f (k + 3)) &&& 255) 24) dS_readLowestFirst_44 rfl ?_
  refine j_ior hg (v := ((((f k) &&& 255) ||| (shl ((f (k + 1)) &&& 255) 8)) ||| (shl ((f (k + 2)) &&& 255) 16)) ||| (shl ((f (k + 3)) &&& 255) 24)) dS_readLowestFirst_45 rfl ?_
  exact j_iret hg hR rfl () trivial rfl [0] rfl (by decide) (by decide) (by decide) dS_readLowestFirst_46

def rm_S_turnLeft : Room := { frames := 0, cells := 0, slots := 0, locals := 0 }
set_option maxHeartbeats 1000000 in
set_option maxRecDepth 100000 in
theorem c_S_turnLeft (l : Launch) (E : Ev) (v b : Int32) : MC E l yS_turnLeft (cT yS_turnLeft cS_turnLeft 2 (some .int)) rm_S_turnLeft [.int v, .int b] [] Unit (fun _ => True) (fun _ => some (.int (tl v b))) (fun _ => []) := by
  refine MC.of (cc := cS_turnLeft) (nL := 2) (ret := (some .int)) (by decide) rfl cT_in (Nat.le_of_ble_eq_true rfl) (fun g hg hR => ?_)
  show J E 2 g [] [(0, .int v), (1, .int b)] 0 0 0 []
  refine j_iload_n hg 0 dS_turnLeft_0 rfl rfl ?_
  refine j_iload_n hg 1 dS_turnLeft_1 rfl rfl ?_
  refine j_ishl hg (v := shl v b) dS_turnLeft_2 rfl ?_
  refine j_iload_n hg 0 dS_turnLeft_3 rfl rfl ?_
  refine j_bipush hg (v := 32) dS_turnLeft_4 (by decide) ?_
  refine j_iload_n hg 1 dS_turnLeft_6 rfl rfl ?_
  refine j_isub hg (v := 32 - b) dS_turnLeft_7 rfl ?_
  refine j_iushr hg (v := ushr v (32 - b)) dS_turnLeft_8 rfl ?_
  refine j_ior hg (v := (shl v b) ||| (ushr v (32 - b))) dS_turnLeft_9 rfl ?_
  exact j_iret hg hR rfl () trivial rfl [] rfl (by decide) (by decide) (by decide) dS_turnLeft_10

def rm_S_turnRight : Room := { frames := 0, cells := 0, slots := 0, locals := 0 }
set_option maxHeartbeats 1000000 in
set_option maxRecDepth 100000 in
theorem c_S_turnRight (l : Launch) (E : Ev) (v b : Int32) : MC E l yS_turnRight (cT yS_turnRight cS_turnRight 2 (some .int)) rm_S_turnRight [.int v, .int b] [] Unit (fun _ => True) (fun _ => some (.int (tr v b))) (fun _ => []) := by
  refine MC.of (cc := cS_turnRight) (nL := 2) (ret := (some .int)) (by decide) rfl cT_in (Nat.le_of_ble_eq_true rfl) (fun g hg hR => ?_)
  show J E 2 g [] [(0, .int v), (1, .int b)] 0 0 0 []
  refine j_iload_n hg 0 dS_turnRight_0 rfl rfl ?_
  refine j_iload_n hg 1 dS_turnRight_1 rfl rfl ?_
  refine j_iushr hg (v := ushr v b) dS_turnRight_2 rfl ?_
  refine j_iload_n hg 0 dS_turnRight_3 rfl rfl ?_
  refine j_bipush hg (v := 32) dS_turnRight_4 (by decide) ?_
  refine j_iload_n hg 1 dS_turnRight_6 rfl rfl ?_
  refine j_isub hg (v := 32 - b) dS_turnRight_7 rfl ?_
  refine j_ishl hg (v := shl v (32 - b)) dS_turnRight_8 rfl ?_
  refine j_ior hg (v := (ushr v b) ||| (shl v (32 - b))) dS_turnRight_9 rfl ?_
  exact j_iret hg hR rfl () trivial rfl [] rfl (by decide) (by decide) (by decide) dS_turnRight_10
