/-! StreamSeal: the object's methods, case by case. -/
def rn (n : Int32) (k : Nat) : Option Nat := if 0 ≤ n.toInt ∧ n.toInt ≤ k then some n.toInt.toNat else none
theorem rn_some {n : Int32} {k j : Nat} (h : rn n k = some j) : n = nI j ∧ j ≤ k := by
  unfold rn at h
  split at h
  · rename_i c
    have e := Option.some.inj h
    refine ⟨?_, by omega⟩
    apply Int32.toInt_inj.mp
    have h3 := Int32.toInt_lt n
    rw [nI_toInt (by omega)]
    omega
  · cases h
theorem rn_neg {n : Int32} {k : Nat} (h : n < 0) : rn n k = none := if_neg (fun c => by
  have h1 := Int32.lt_iff_toInt_lt.mp h
  rw [Int32.toInt_zero] at h1
  omega)
theorem rn_big {j k : Nat} (hj : j < 2147483648) (h : k < j) : rn (nI j) k = none := if_neg (fun c => by
  rw [nI_toInt hj] at c
  omega)
theorem rn_nI {j k : Nat} (hj : j < 2147483648) (h : j ≤ k) : rn (nI j) k = some j := by
  unfold rn
  rw [nI_toInt hj, if_pos (by omega)]
  rfl
theorem rn_lt {j k : Nat} (hj : j < 2147483648) (h : rn (nI j) k = none) : k < j := by
  rcases Nat.lt_or_ge k j with z | z
  · exact z
  · rw [rn_nI hj z] at h
    cases h

def rm_S_tapeReaches : Room := { frames := 0, cells := 0, slots := 0, locals := 0 }
set_option maxHeartbeats 1000000 in
set_option maxRecDepth 100000 in
theorem c_S_tapeReaches_y (l : Launch) (E : Ev) (h xt xo xk xn xb xz xm xs xp xd : Nat) (tn on : Nat) (j : Nat) (hj : j ≤ tn) (ht : tn < 2147483648) : MC E l yS_tapeReaches (cT yS_tapeReaches cS_tapeReaches 2 (some .boolean)) rm_S_tapeReaches [.ref h, .int (nI j)] [ob h 3 [.ref xt, .int (nI tn), .ref xo, .int (nI on), .ref xk, .ref xn, .ref xb, .ref xz, .ref xm, .ref xs, .ref xp, .ref xd]] Unit (fun _ => True) (fun _ => some (.int 1)) (fun _ => [ob h 3 [.ref xt, .int (nI tn), .ref xo, .int (nI on), .ref xk, .ref xn, .ref xb, .ref xz, .ref xm, .ref xs, .ref xp, .ref xd]]) := by
  refine MC.of (cc := cS_tapeReaches) (nL := 2) (ret := (some .boolean)) (by decide) rfl cT_in (Nat.le_of_ble_eq_true rfl) (fun g hg hR => ?_)
  show J E 2 g [ob h 3 [.ref xt, .int (nI tn), .ref xo, .int (nI on), .ref xk, .ref xn, .ref xb, .ref xz, .ref xm, .ref xs, .ref xp, .ref xd]] [(0, .ref h), (1, .int (nI j))] 0 0 0 []
  refine j_iload_n hg 1 dS_tapeReaches_0 rfl rfl ?_
  refine j_zlt_f hg (tgt := 16) j rfl (by omega) (by omega) dS_tapeReaches_1 (by decide) ?_
  refine j_iload_n hg 1 dS_tapeReaches_4 rfl rfl ?_
  refine j_aload_n hg 0 dS_tapeReaches_5 rfl rfl ?_
  refine j_get hg (C := RX3) (T := TX3) (N := 12) inX3 0 rfl rfl 1 (by decide) m84 rfl dS_tapeReaches_6 ?_
  refine j_ngt_f hg (tgt := 16) j tn rfl rfl (by omega) (by omega) (by omega) dS_tapeReaches_9 (by decide) ?_
  refine j_iconst hg (v := 1) dS_tapeReaches_12 (by decide) ?_
  refine j_goto hg (tgt := 17) dS_tapeReaches_13 (by decide) ?_
  exact j_iret hg hR rfl () trivial rfl [0] rfl (by decide) (by decide) (by decide) dS_tapeReaches_17

set_option maxHeartbeats 1000000 in
set_option maxRecDepth 100000 in
theorem c_S_tapeReaches_n (l : Launch) (E : Ev) (h xt xo xk xn xb xz xm xs xp xd : Nat) (tn on : Nat) (n : Int32) (hn : rn n tn = none) (ht : tn < 2147483648) : MC E l yS_tapeReaches (cT yS_tapeReaches cS_tapeReaches 2 (some .boolean)) rm_S_tapeReaches [.ref h, .int n] [ob h 3 [.ref xt, .int (nI tn), .ref xo, .int (nI on), .ref xk, .ref xn, .ref xb, .ref xz, .ref xm, .ref xs, .ref xp, .ref xd]] Unit (fun _ => True) (fun _ => some (.int 0)) (fun _ => [ob h 3 [.ref xt, .int (nI tn), .ref xo, .int (nI on), .ref xk, .ref xn, .ref xb, .ref xz, .ref xm, .ref xs, .ref xp, .ref xd]]) := by
  refine MC.of (cc := cS_tapeReaches) (nL := 2) (ret := (some .boolean)) (by decide) rfl cT_in (Nat.le_of_ble_eq_true rfl) (fun g hg hR => ?_)
  show J E 2 g [ob h 3 [.ref xt, .int (nI tn), .ref xo, .int (nI on), .ref xk, .ref xn, .ref xb, .ref xz, .ref xm, .ref xs, .ref xp, .ref xd]] [(0, .ref h), (1, .int n)] 0 0 0 []
  refine j_iload_n hg 1 dS_tapeReaches_0 rfl rfl ?_
  refine j_if_lt hg (tgt := 16) dS_tapeReaches_1 (by decide) (fun hc => ?_) (fun hc => ?_)
  · skip
    refine j_iconst hg (v := 0) dS_tapeReaches_16 (by decide) ?_
    exact j_iret hg hR rfl () trivial rfl [0] rfl (by decide) (by decide) (by decide) dS_tapeReaches_17
  · skip
    obtain ⟨j, hj, rfl⟩ := nI_of hc
    refine j_iload_n hg 1 dS_tapeReaches_4 rfl rfl ?_
    refine j_aload_n hg 0 dS_tapeReaches_5 rfl rfl ?_
    refine j_get hg (C := RX3) (T := TX3) (N := 12) inX3 0 rfl rfl 1 (by decide) m84 rfl dS_tapeReaches_6 ?_
    refine j_ngt_t hg (tgt := 16) j tn rfl rfl (by omega) (by omega) (rn_lt hj hn) dS_tapeReaches_9 (by decide) ?_
    refine j_iconst hg (v := 0) dS_tapeReaches_16 (by decide) ?_
    exact j_iret hg hR rfl () trivial rfl [0] rfl (by decide) (by decide) (by decide) dS_tapeReaches_17

def rm_S_feed : Room := { frames := 1, cells := 0, slots := 0, locals := 22 }
set_option maxHeartbeats 1000000 in
set_option maxRecDepth 100000 in
theorem c_S_feed_full (l : Launch) (E : Ev) (h xt xo xk xn xb xz xm xs xp xd : Nat) (tn on : Nat) (a b c d e : Int32) (h1 : 780 < tn) (ht : tn < 2147483648) : MC E l yS_feed (cT yS_feed cS_feed 6 (some .int)) rm_S_feed [.ref h, .int a, .int b, .int c, .int d, .int e] [ob h 3 [.ref xt, .int (nI tn), .ref xo, .int (nI on), .ref xk, .ref xn, .ref xb, .ref xz, .ref xm, .ref xs, .ref xp, .ref xd]] Unit (fun _ => True) (fun _ => some (.int (-3))) (fun _ => [ob h 3 [.ref xt, .int (nI tn), .ref xo, .int (nI on), .ref xk, .ref xn, .ref xb, .ref xz, .ref xm, .ref xs, .ref xp, .ref xd]]) := by
  refine MC.of (cc := cS_feed) (nL := 6) (ret := (some .int)) (by decide) rfl cT_in (Nat.le_of_ble_eq_true rfl) (fun g hg hR => ?_)
  show J E 6 g [ob h 3 [.ref xt, .int (nI tn), .ref xo, .int (nI on), .ref xk, .ref xn, .ref xb, .ref xz, .ref xm, .ref xs, .ref xp, .ref xd]] [(0, .ref h), (1, .int a), (2, .int b), (3, .int c), (4, .int d), (5, .int e)] 0 0 0 []
  refine j_aload_n hg 0 dS_feed_0 rfl rfl ?_
  refine j_get hg (C := RX3) (T := TX3) (N := 12) inX3 0 rfl rfl 1 (by decide) m84 rfl dS_feed_1 ?_
  refine j_sipush hg (v := 780) dS_feed_4 (by decide) ?_
  refine j_nle_f hg (tgt := 13) tn 780 rfl rfl (by omega) (by omega) (by omega) dS_feed_7 (by decide) ?_
  refine j_bipush hg (v := -3) dS_feed_10 (by decide) ?_
  exact j_iret hg hR rfl () trivial rfl [0] rfl (by decide) (by decide) (by decide) dS_feed_12

set_option maxHeartbeats 1000000 in
set_option maxRecDepth 100000 in
theorem c_S_feed_ok (l : Launch) (E : Ev) (h xt xo xk xn xb xz xm xs xp xd : Nat) (tn on : Nat) (f : Nat → Int32) (a b c d e : Int32) (h1 : tn ≤ 780) : MC E l yS_feed (cT yS_feed cS_feed 6 (some .int)) rm_S_feed [.ref h, .int a, .int b, .int c, .int d, .int e] [ob h 3 [.ref xt, .int (nI tn), .ref xo, .int (nI on), .ref xk, .ref xn, .ref xb, .ref xz, .ref xm, .ref xs, .ref xp, .ref xd], aB E xt 800 f] Unit (fun _ => True) (fun _ => some (.int (nI (tn + 20)))) (fun _ => [ob h 3 [.ref xt, .int (nI (tn + 20)), .ref xo, .int (nI on), .ref xk, .ref xn, .ref xb, .ref xz, .ref xm, .ref xs, .ref xp, .ref xd], aB E xt 800 (wh (wh (wh (wh (wh f tn a) (tn + 4) b) (tn + 8) c) (tn + 12) d) (tn + 16) e)]) := by
  refine MC.of (cc := cS_feed) (nL := 6) (ret := (some .int)) (by decide) rfl cT_in (Nat.le_of_ble_eq_true rfl) (fun g hg hR => ?_)
  show J E 6 g [ob h 3 [.ref xt, .int (nI tn), .ref xo, .int (nI on), .ref xk, .ref xn, .ref xb, .ref xz, .ref xm, .ref xs, .ref xp, .ref xd], aB E xt 800 f] [(0, .ref h), (1, .int a), (2, .int b), (3, .int c), (4, .int d), (5, .int e)] 0 0 0 []
  refine j_aload_n hg 0 dS_feed_0 rfl rfl ?_
  refine j_get hg (C := RX3) (T := TX3) (N := 12) inX3 0 rfl rfl 1 (by decide) m84 rfl dS_feed_1 ?_
  refine j_sipush hg (v := 780) dS_feed_4 (by decide) ?_
  refine j_nle_t hg (tgt := 13) tn 780 rfl rfl (by omega) (by omega) (by omega) dS_feed_7 (by decide) ?_
  refine j_aload_n hg 0 dS_feed_13 rfl rfl ?_
  refine j_get hg (C := RX3) (T := TX3) (N := 12) inX3 0 rfl rfl 0 (by decide) m83 rfl dS_feed_14 ?_
  refine j_aload_n hg 0 dS_feed_17 rfl rfl ?_
  refine j_get hg (C := RX3) (T := TX3) (N := 12) inX3 0 rfl rfl 1 (by decide) m84 rfl dS_feed_18 ?_
  refine j_iload_n hg 1 dS_feed_21 rfl rfl ?_
  refine j_callS hg (n := 3) (y := yS_writeHighestFirst) (rm := rm_S_writeHighestFirst) (Ws := (cT yS_writeHighestFirst cS_writeHighestFirst 3 none)) (As := [.ref xt, .int (nI tn), .int a]) (rest := []) (wr := [ob h 3 [.ref xt, .int (nI tn), .ref xo, .int (nI on), .ref xk, .ref xn, .ref xb, .ref xz, .ref xm, .ref xs, .ref xp, .ref xd]]) (c_S_writeHighestFirst l E xt 800 f tn a (by omega) (by omega)) (gdS m124 m125 m1 m126) rfl (by decide +kernel) ⟨by decide, by decide⟩ rfl rfl (Nat.le_of_ble_eq_true rfl) ⟨by decide, by decide⟩ [1] [0] rfl rfl (by decide) (by decide) (by decide) dS_feed_22 (fun _ _ => ?_)
  show J E 6 g [ob h 3 [.ref xt, .int (nI tn), .ref xo, .int (nI on), .ref xk, .ref xn, .ref xb, .ref xz, .ref xm, .ref xs, .ref xp, .ref xd], aB E xt 800 (wh f tn a)] [(0, .ref h), (1, .int a), (2, .int b), (3, .int c), (4, .int d), (5, .int e)] 0 0 25 []
  refine j_aload_n hg 0 dS_feed_25 rfl rfl ?_
  refine j_get hg (C := RX3) (T := TX3) (N := 12) inX3 0 rfl rfl 0 (by decide) m83 rfl dS_feed_26 ?_
  refine j_aload_n hg 0 dS_feed_29 rfl rfl ?_
  refine j_get hg (C := RX3) (T := TX3) (N := 12) inX3 0 rfl rfl 1 (by decide) m84 rfl dS_feed_30 ?_
  refine j_iconst hg (v := 4) dS_feed_33 (by decide) ?_
  refine j_iadd hg (v := nI (tn + 4)) dS_feed_34 (nI_add tn 4) ?_
  refine j_iload_n hg 2 dS_feed_35 rfl rfl ?_
  refine j_callS hg (n := 3) (y := yS_writeHighestFirst) (rm := rm_S_writeHighestFirst) (Ws := (cT yS_writeHighestFirst cS_writeHighestFirst 3 none)) (As := [.ref xt, .int (nI (tn + 4)), .int b]) (rest := []) (wr := [ob h 3 [.ref xt, .int (nI tn), .ref xo, .int (nI on), .ref xk, .ref xn, .ref xb, .ref xz, .ref xm, .ref xs, .ref xp, .ref xd]]) (c_S_writeHighestFirst l E xt 800 (wh f tn a) (tn + 4) b (by omega) (by omega)) (gdS m124 m125 m1 m126) rfl (by decide +kernel) ⟨by decide, by decide⟩ rfl rfl (Nat.le_of_ble_eq_true rfl) ⟨by decide, by decide⟩ [1] [0] rfl rfl (by decide) (by decide) (by decide) dS_feed_36 (fun _ _ => ?_)
  show J E 6 g [ob h 3 [.ref xt, .int (nI tn), .ref xo, .int (nI on), .ref xk, .ref xn, .ref xb, .ref xz, .ref xm, .ref xs, .ref xp, .ref xd], aB E xt 800 (wh (wh f tn a) (tn + 4) b)] [(0, .ref h), (1, .int a), (2, .int b), (3, .int c), (4, .int d), (5, .int e)] 0 0 39 []
  refine j_aload_n hg 0 dS_feed_39 rfl rfl ?_
  refine j_get hg (C := RX3) (T := TX3) (N := 12) inX3 0 rfl rfl 0 (by decide) m83 rfl dS_feed_40 ?_
  refine j_aload_n hg 0 dS_feed_43 rfl rfl ?_
  refine j_get hg (C := RX3) (T := TX3) (N := 12) inX3 0 rfl rfl 1 (by decide) m84 rfl dS_feed_44 ?_
  refine j_bipush hg (v := 8) dS_feed_47 (by decide) ?_
  refine j_iadd hg (v := nI (tn + 8)) dS_feed_49 (nI_add tn 8) ?_
  refine j_iload_n hg 3 dS_feed_50 rfl rfl ?_
  refine j_callS hg (n := 3) (y := yS_writeHighestFirst) (rm := rm_S_writeHighestFirst) (Ws := (cT yS_writeHighestFirst cS_writeHighestFirst 3 none)) (As := [.ref xt, .int (nI (tn + 8)), .int c]) (rest := []) (wr := [ob h 3 [.ref xt, .int (nI tn), .ref xo, .int (nI on), .ref xk, .ref xn, .ref xb, .ref xz, .ref xm, .ref xs, .ref xp, .ref xd]]) (c_S_writeHighestFirst l E xt 800 (wh (wh f tn a) (tn + 4) b) (tn + 8) c (by omega) (by omega)) (gdS m124 m125 m1 m126) rfl (by decide +kernel) ⟨by decide, by decide⟩ rfl rfl (Nat.le_of_ble_eq_true rfl) ⟨by decide, by decide⟩ [1] [0] rfl rfl (by decide) (by decide) (by decide) dS_feed_51 (fun _ _ => ?_)
  show J E 6 g [ob h 3 [.ref xt, .int (nI tn), .ref xo, .int (nI on), .ref xk, .ref xn, .ref xb, .ref xz, .ref xm, .ref xs, .ref xp, .ref xd], aB E xt 800 (wh (wh (wh f tn a) (tn + 4) b) (tn + 8) c)] [(0, .ref h), (1, .int a), (2, .int b), (3, .int c), (4, .int d), (5, .int e)] 0 0 54 []
  refine j_aload_n hg 0 dS_feed_54 rfl rfl ?_
  refine j_get hg (C := RX3) (T := TX3) (N := 12) inX3 0 rfl rfl 0 (by decide) m83 rfl dS_feed_55 ?_
  refine j_aload_n hg 0 dS_feed_58 rfl rfl ?_
  refine j_get hg (C := RX3) (T := TX3) (N := 12) inX3 0 rfl rfl 1 (by decide) m84 rfl dS_feed_59 ?_
  refine j_bipush hg (v := 12) dS_feed_62 (by decide) ?_
  refine j_iadd hg (v := nI (tn + 12)) dS_feed_64 (nI_add tn 12) ?_
  refine j_iload hg 4 dS_feed_65 rfl ?_
  refine j_callS hg (n := 3) (y := yS_writeHighestFirst) (rm := rm_S_writeHighestFirst) (Ws := (cT yS_writeHighestFirst cS_writeHighestFirst 3 none)) (As := [.ref xt, .int (nI (tn + 12)), .int d]) (rest := []) (wr := [ob h 3 [.ref xt, .int (nI tn), .ref xo, .int (nI on), .ref xk, .ref xn, .ref xb, .ref xz, .ref xm, .ref xs, .ref xp, .ref xd]]) (c_S_writeHighestFirst l E xt 800 (wh (wh (wh f tn a) (tn + 4) b) (tn + 8) c) (tn + 12) d (by omega) (by omega)) (gdS m124 m125 m1 m126) rfl (by decide +kernel) ⟨by decide, by decide⟩ rfl rfl (Nat.le_of_ble_eq_true rfl) ⟨by decide, by decide⟩ [1] [0] rfl rfl (by decide) (by decide) (by decide) dS_feed_67 (fun _ _ => ?_)
  show J E 6 g [ob h 3 [.ref xt, .int (nI tn), .ref xo, .int (nI on), .ref xk, .ref xn, .ref xb, .ref xz, .ref xm, .ref xs, .ref xp, .ref xd], aB E xt 800 (wh (wh (wh (wh f tn a) (tn + 4) b) (tn + 8) c) (tn + 12) d)] [(0, .ref h), (1, .int a), (2, .int b), (3, .int c), (4, .int d), (5, .int e)] 0 0 70 []
  refine j_aload_n hg 0 dS_feed_70 rfl rfl ?_
  refine j_get hg (C := RX3) (T := TX3) (N := 12) inX3 0 rfl rfl 0 (by decide) m83 rfl dS_feed_71 ?_
  refine j_aload_n hg 0 dS_feed_74 rfl rfl ?_
  refine j_get hg (C := RX3) (T := TX3) (N := 12) inX3 0 rfl rfl 1 (by decide) m84 rfl dS_feed_75 ?_
  refine j_bipush hg (v := 16) dS_feed_78 (by decide) ?_
  refine j_iadd hg (v := nI (tn + 16)) dS_feed_80 (nI_add tn 16) ?_
  refine j_iload hg 5 dS_feed_81 rfl ?_
  refine j_callS hg (n := 3) (y := yS_writeHighestFirst) (rm := rm_S_writeHighestFirst) (Ws := (cT yS_writeHighestFirst cS_writeHighestFirst 3 none)) (As := [.ref xt, .int (nI (tn + 16)), .int e]) (rest := []) (wr := [ob h 3 [.ref xt, .int (nI tn), .ref xo, .int (nI on), .ref xk, .ref xn, .ref xb, .ref xz, .ref xm, .ref xs, .ref xp, .ref xd]]) (c_S_writeHighestFirst l E xt 800 (wh (wh (wh (wh f tn a) (tn + 4) b) (tn + 8) c) (tn + 12) d) (tn + 16) e (by omega) (by omega)) (gdS m124 m125 m1 m126) rfl (by decide +kernel) ⟨by decide, by decide⟩ rfl rfl (Nat.le_of_ble_eq_true rfl) ⟨by decide, by decide⟩ [1] [0] rfl rfl (by decide) (by decide) (by decide) dS_feed_83 (fun _ _ => ?_)
  show J E 6 g [ob h 3 [.ref xt, .int (nI tn), .ref xo, .int (nI on), .ref xk, .ref xn, .ref xb, .ref xz, .ref xm, .ref xs, .ref xp, .ref xd], aB E xt 800 (wh (wh (wh (wh (wh f tn a) (tn + 4) b) (tn + 8) c) (tn + 12) d) (tn + 16) e)] [(0, .ref h), (1, .int a), (2, .int b), (3, .int c), (4, .int d), (5, .int e)] 0 0 86 []
  refine j_aload_n hg 0 dS_feed_86 rfl rfl ?_
  refine j_dup hg dS_feed_87 rfl ?_
  refine j_get hg (C := RX3) (T := TX3) (N := 12) inX3 0 rfl rfl 1 (by decide) m84 rfl dS_feed_88 ?_
  refine j_bipush hg (v := 20) dS_feed_91 (by decide) ?_
  refine j_iadd hg (v := nI (tn + 20)) dS_feed_93 (nI_add tn 20) ?_
  refine j_put hg (C := RX3) (T := TX3) (N := 12) (ty := .int) (ws' := [ob h 3 [.ref xt, .int (nI (tn + 20)), .ref xo, .int (nI on), .ref xk, .ref xn, .ref xb, .ref xz, .ref xm, .ref xs, .ref xp, .ref xd], aB E xt 800 (wh (wh (wh (wh (wh f tn a) (tn + 4) b) (tn + 8) c) (tn + 12) d) (tn + 16) e)]) inX3 tyX3 tyX3_ok nmX3 0 rfl rfl 1 (by decide) m84 rfl (by decide +kernel) rfl rfl (Nat.le_of_ble_eq_true rfl) rfl dS_feed_94 ?_
  refine j_aload_n hg 0 dS_feed_97 rfl rfl ?_
  refine j_get hg (C := RX3) (T := TX3) (N := 12) inX3 0 rfl rfl 1 (by decide) m84 rfl dS_feed_98 ?_
  exact j_iret hg hR rfl () trivial rfl [0, 1] rfl (by decide) (by decide) (by decide) dS_feed_101

def rm_S_end : Room := { frames := 1, cells := 0, slots := 0, locals := 21 }
set_option maxHeartbeats 1000000 in
set_option maxRecDepth 100000 in
theorem c_S_end_y (l : Launch) (E : Ev) (h xt xo xk xn xb xz xm xs xp xd : Nat) (tn on : Nat) (j : Nat) (hj : j ≤ tn) (ht : tn < 2147483648) : MC E l yS_end (cT yS_end cS_end 2 (some .int)) rm_S_end [.ref h, .int (nI j)] [ob h 3 [.ref xt, .int (nI tn), .ref xo, .int (nI on), .ref xk, .ref xn, .ref xb, .ref xz, .ref xm, .ref xs, .ref xp, .ref xd]] Unit (fun _ => True) (fun _ => some (.int (nI j))) (fun _ => [ob h 3 [.ref xt, .int (nI j), .ref xo, .int (nI on), .ref xk, .ref xn, .ref xb, .ref xz, .ref xm, .ref xs, .ref xp, .ref xd]]) := by
  refine MC.of (cc := cS_end) (nL := 2) (ret := (some .int)) (by decide) rfl cT_in (Nat.le_of_ble_eq_true rfl) (fun g hg hR => ?_)
  show J E 2 g [ob h 3 [.ref xt, .int (nI tn), .ref xo, .int (nI on), .ref xk, .ref xn, .ref xb, .ref xz, .ref xm, .ref xs, .ref xp, .ref xd]] [(0, .ref h), (1, .int (nI j))] 0 0 0 []
  refine j_aload_n hg 0 dS_end_0 rfl rfl ?_
  refine j_iload_n hg 1 dS_end_1 rfl rfl ?_
  refine j_callV hg (n := 1) (y := yS_tapeReaches) (rm := rm_S_tapeReaches) (Ws := (cT yS_tapeReaches cS_tapeReaches 2 (some .boolean))) (As := [.int (nI j)]) (rest := []) (wr := []) 0 rfl rfl (c_S_tapeReaches_y l E h xt xo xk xn xb xz xm xs xp xd tn on j (by omega) (by omega)) (gdV m131 m133 ms0 m1 m134) rfl (by decide +kernel) ⟨by decide, by decide⟩ rfl rfl (Nat.le_of_ble_eq_true rfl) ⟨by decide, by decide⟩ [0] [] rfl rfl (by decide) (by decide) (by decide) dS_end_2 (fun _ _ => ?_)
  show J E 2 g [ob h 3 [.ref xt, .int (nI tn), .ref xo, .int (nI on), .ref xk, .ref xn, .ref xb, .ref xz, .ref xm, .ref xs, .ref xp, .ref xd]] [(0, .ref h), (1, .int (nI j))] 0 0 5 [.int 1]
  refine j_zne_t hg (tgt := 10) 1 rfl (by omega) (by omega) dS_end_5 (by decide) ?_
  refine j_aload_n hg 0 dS_end_10 rfl rfl ?_
  refine j_iload_n hg 1 dS_end_11 rfl rfl ?_
  refine j_put hg (C := RX3) (T := TX3) (N := 12) (ty := .int) (ws' := [ob h 3 [.ref xt, .int (nI j), .ref xo, .int (nI on), .ref xk, .ref xn, .ref xb, .ref xz, .ref xm, .ref xs, .ref xp, .ref xd]]) inX3 tyX3 tyX3_ok nmX3 0 rfl rfl 1 (by decide) m84 rfl (by decide +kernel) rfl rfl (Nat.le_of_ble_eq_true rfl) rfl dS_end_12 ?_
  refine j_iload_n hg 1 dS_end_15 rfl rfl ?_
  exact j_iret hg hR rfl () trivial rfl [0] rfl (by decide) (by decide) (by decide) dS_end_16

set_option maxHeartbeats 1000000 in
set_option maxRecDepth 100000 in
theorem c_S_end_n (l : Launch) (E : Ev) (h xt xo xk xn xb xz xm xs xp xd : Nat) (tn on : Nat) (n : Int32) (hn : rn n tn = none) (ht : tn < 2147483648) : MC E l yS_end (cT yS_end cS_end 2 (some .int)) rm_S_end [.ref h, .int n] [ob h 3 [.ref xt, .int (nI tn), .ref xo, .int (nI on), .ref xk, .ref xn, .ref xb, .ref xz, .ref xm, .ref xs, .ref xp, .ref xd]] Unit (fun _ => True) (fun _ => some (.int (-1))) (fun _ => [ob h 3 [.ref xt, .int (nI tn), .ref xo, .int (nI on), .ref xk, .ref xn, .ref xb, .ref xz, .ref xm, .ref xs, .ref xp, .ref xd]]) := by
  refine MC.of (cc := cS_end) (nL := 2) (ret := (some .int)) (by decide) rfl cT_in (Nat.le_of_ble_eq_true rfl) (fun g hg hR => ?_)
  show J E 2 g [ob h 3 [.ref xt, .int (nI tn), .ref xo, .int (nI on), .ref xk, .ref xn, .ref xb, .ref xz, .ref xm, .ref xs, .ref xp, .ref xd]] [(0, .ref h), (1, .int n)] 0 0 0 []
  refine j_aload_n hg 0 dS_end_0 rfl rfl ?_
  refine j_iload_n hg 1 dS_end_1 rfl rfl ?_
  refine j_callV hg (n := 1) (y := yS_tapeReaches) (rm := rm_S_tapeReaches) (Ws := (cT yS_tapeReaches cS_tapeReaches 2 (some .boolean))) (As := [.int n]) (rest := []) (wr := []) 0 rfl rfl (c_S_tapeReaches_n l E h xt xo xk xn xb xz xm xs xp xd tn on n hn (by omega)) (gdV m131 m133 ms0 m1 m134) rfl (by decide +kernel) ⟨by decide, by decide⟩ rfl rfl (Nat.le_of_ble_eq_true rfl) ⟨by decide, by decide⟩ [0] [] rfl rfl (by decide) (by decide) (by decide) dS_end_2 (fun _ _ => ?_)
  show J E 2 g [ob h 3 [.ref xt, .int (nI tn), .ref xo, .int (nI on), .ref xk, .ref xn, .ref xb, .ref xz, .ref xm, .ref xs, .ref xp, .ref xd]] [(0, .ref h), (1, .int n)] 0 0 5 [.int 0]
  refine j_zne_f hg (tgt := 10) 0 rfl (by omega) (by omega) dS_end_5 (by decide) ?_
  refine j_iconst hg (v := -1) dS_end_8 (by decide) ?_
  exact j_iret hg hR rfl () trivial rfl [0] rfl (by decide) (by decide) (by decide) dS_end_9

def rm_S_take : Room := { frames := 1, cells := 0, slots := 0, locals := 21 }
set_option maxHeartbeats 1000000 in
set_option maxRecDepth 100000 in
theorem c_S_take_n (l : Launch) (E : Ev) (h xt xo xk xn xb xz xm xs xp xd : Nat) (tn on : Nat) (n : Int32) (hn : rn n tn = none) (ht : tn < 2147483648) : MC E l yS_take (cT yS_take cS_take 2 (some .int)) rm_S_take [.ref h, .int n] [ob h 3 [.ref xt, .int (nI tn), .ref xo, .int (nI on), .ref xk, .ref xn, .ref xb, .ref xz, .ref xm, .ref xs, .ref xp, .ref xd]] Unit (fun _ => True) (fun _ => some (.int (-1))) (fun _ => [ob h 3 [.ref xt, .int (nI tn), .ref xo, .int (nI on), .ref xk, .ref xn, .ref xb, .ref xz, .ref xm, .ref xs, .ref xp, .ref xd]]) := by
  refine MC.of (cc := cS_take) (nL := 2) (ret := (some .int)) (by decide) rfl cT_in (Nat.le_of_ble_eq_true rfl) (fun g hg hR => ?_)
  show J E 2 g [ob h 3 [.ref xt, .int (nI tn), .ref xo, .int (nI on), .ref xk, .ref xn, .ref xb, .ref xz, .ref xm, .ref xs, .ref xp, .ref xd]] [(0, .ref h), (1, .int n)] 0 0 0 []
  refine j_aload_n hg 0 dS_take_0 rfl rfl ?_
  refine j_iload_n hg 1 dS_take_1 rfl rfl ?_
  refine j_callV hg (n := 1) (y := yS_tapeReaches) (rm := rm_S_tapeReaches) (Ws := (cT yS_tapeReaches cS_tapeReaches 2 (some .boolean))) (As := [.int n]) (rest := []) (wr := []) 0 rfl rfl (c_S_tapeReaches_n l E h xt xo xk xn xb xz xm xs xp xd tn on n hn (by omega)) (gdV m131 m133 ms0 m1 m134) rfl (by decide +kernel) ⟨by decide, by decide⟩ rfl rfl (Nat.le_of_ble_eq_true rfl) ⟨by decide, by decide⟩ [0] [] rfl rfl (by decide) (by decide) (by decide) dS_take_2 (fun _ _ => ?_)
  show J E 2 g [ob h 3 [.ref xt, .int (nI tn), .ref xo, .int (nI on), .ref xk, .ref xn, .ref xb, .ref xz, .ref xm, .ref xs, .ref xp, .ref xd]] [(0, .ref h), (1, .int n)] 0 0 5 [.int 0]
  refine j_zne_f hg (tgt := 10) 0 rfl (by omega) (by omega) dS_take_5 (by decide) ?_
  refine j_iconst hg (v := -1) dS_take_8 (by decide) ?_
  exact j_iret hg hR rfl () trivial rfl [0] rfl (by decide) (by decide) (by decide) dS_take_9

set_option maxHeartbeats 1000000 in
set_option maxRecDepth 100000 in
theorem c_S_take_full (l : Launch) (E : Ev) (h xt xo xk xn xb xz xm xs xp xd : Nat) (tn on : Nat) (j : Nat) (hj : j ≤ tn) (ht : tn ≤ 800) (ho : on ≤ 816) (h1 : 800 < j + on) : MC E l yS_take (cT yS_take cS_take 2 (some .int)) rm_S_take [.ref h, .int (nI j)] [ob h 3 [.ref xt, .int (nI tn), .ref xo, .int (nI on), .ref xk, .ref xn, .ref xb, .ref xz, .ref xm, .ref xs, .ref xp, .ref xd]] Unit (fun _ => True) (fun _ => some (.int (-3))) (fun _ => [ob h 3 [.ref xt, .int (nI tn), .ref xo, .int (nI on), .ref xk, .ref xn, .ref xb, .ref xz, .ref xm, .ref xs, .ref xp, .ref xd]]) := by
  refine MC.of (cc := cS_take) (nL := 2) (ret := (some .int)) (by decide) rfl cT_in (Nat.le_of_ble_eq_true rfl) (fun g hg hR => ?_)
  show J E 2 g [ob h 3 [.ref xt, .int (nI tn), .ref xo, .int (nI on), .ref xk, .ref xn, .ref xb, .ref xz, .ref xm, .ref xs, .ref xp, .ref xd]] [(0, .ref h), (1, .int (nI j))] 0 0 0 []
  refine j_aload_n hg 0 dS_take_0 rfl rfl ?_
  refine j_iload_n hg 1 dS_take_1 rfl rfl ?_
  refine j_callV hg (n := 1) (y := yS_tapeReaches) (rm := rm_S_tapeReaches) (Ws := (cT yS_tapeReaches cS_tapeReaches 2 (some .boolean))) (As := [.int (nI j)]) (rest := []) (wr := []) 0 rfl rfl (c_S_tapeReaches_y l E h xt xo xk xn xb xz xm xs xp xd tn on j (by omega) (by omega)) (gdV m131 m133 ms0 m1 m134) rfl (by decide +kernel) ⟨by decide, by decide⟩ rfl rfl (Nat.le_of_ble_eq_true rfl) ⟨by decide, by decide⟩ [0] [] rfl rfl (by decide) (by decide) (by decide) dS_take_2 (fun _ _ => ?_)
  show J E 2 g [ob h 3 [.ref xt, .int (nI tn), .ref xo, .int (nI on), .ref xk, .ref xn, .ref xb, .ref xz, .ref xm, .ref xs, .ref xp, .ref xd]] [(0, .ref h), (1, .int (nI j))] 0 0 5 [.int 1]
  refine j_zne_t hg (tgt := 10) 1 rfl (by omega) (by omega) dS_take_5 (by decide) ?_
  refine j_iload_n hg 1 dS_take_10 rfl rfl ?_
  refine j_aload_n hg 0 dS_take_11 rfl rfl ?_
  refine j_get hg (C := RX3) (T := TX3) (N := 12) inX3 0 rfl rfl 3 (by decide) m86 rfl dS_take_12 ?_
  refine j_iadd hg (v := nI (j + on)) dS_take_15 (nI_add j on) ?_
  refine j_sipush hg (v := 800) dS_take_16 (by decide) ?_
  refine j_nle_f hg (tgt := 25) (j + on) 800 rfl rfl (by omega) (by omega) (by omega) dS_take_19 (by decide) ?_
  refine j_bipush hg (v := -3) dS_take_22 (by decide) ?_
  exact j_iret hg hR rfl () trivial rfl [0] rfl (by decide) (by decide) (by decide) dS_take_24

set_option maxHeartbeats 1000000 in
set_option maxRecDepth 100000 in
theorem c_S_take_ok (l : Launch) (E : Ev) (h xt xo xk xn xb xz xm xs xp xd : Nat) (tn on : Nat) (f o : Nat → Int32) (j : Nat) (hj : j ≤ tn) (ht : tn ≤ 800) (ho : on ≤ 816) (h1 : j + on ≤ 800) (hb : Byt o) : MC E l yS_take (cT yS_take cS_take 2 (some .int)) rm_S_take [.ref h, .int (nI j)] [ob h 3 [.ref xt, .int (nI tn), .ref xo, .int (nI on), .ref xk, .ref xn, .ref xb, .ref xz, .ref xm, .ref xs, .ref xp, .ref xd], aB E xt 800 f, aB E xo 816 o] Unit (fun _ => True) (fun _ => some (.int (nI (j + on)))) (fun _ => [ob h 3 [.ref xt, .int (nI (j + on)), .ref xo, .int (nI on), .ref xk, .ref xn, .ref xb, .ref xz, .ref xm, .ref xs, .ref xp, .ref xd], aB E xt 800 (va_cpy o f 0 j on), aB E xo 816 o]) := by
  refine MC.of (cc := cS_take) (nL := 2) (ret := (some .int)) (by decide) rfl cT_in (Nat.le_of_ble_eq_true rfl) (fun g hg hR => ?_)
  show J E 2 g [ob h 3 [.ref xt, .int (nI tn), .ref xo, .int (nI on), .ref xk, .ref xn, .ref xb, .ref xz, .ref xm, .ref xs, .ref xp, .ref xd], aB E xt 800 f, aB E xo 816 o] [(0, .ref h), (1, .int (nI j))] 0 0 0 []
  refine j_aload_n hg 0 dS_take_0 rfl rfl ?_
  refine j_iload_n hg 1 dS_take_1 rfl rfl ?_
  refine j_callV hg (n := 1) (y := yS_tapeReaches) (rm := rm_S_tapeReaches) (Ws := (cT yS_tapeReaches cS_tapeReaches 2 (some .boolean))) (As := [.int (nI j)]) (rest := []) (wr := [aB E xt 800 f, aB E xo 816 o]) 0 rfl rfl (c_S_tapeReaches_y l E h xt xo xk xn xb xz xm xs xp xd tn on j (by omega) (by omega)) (gdV m131 m133 ms0 m1 m134) rfl (by decide +kernel) ⟨by decide, by decide⟩ rfl rfl (Nat.le_of_ble_eq_true rfl) ⟨by decide, by decide⟩ [0] [1, 2] rfl rfl (by decide) (by decide) (by decide) dS_take_2 (fun _ _ => ?_)
  show J E 2 g [aB E xt 800 f, aB E xo 816 o, ob h 3 [.ref xt, .int (nI tn), .ref xo, .int (nI on), .ref xk, .ref xn, .ref xb, .ref xz, .ref xm, .ref xs, .ref xp, .ref xd]] [(0, .ref h), (1, .int (nI j))] 0 0 5 [.int 1]
  refine j_zne_t hg (tgt := 10) 1 rfl (by omega) (by omega) dS_take_5 (by decide) ?_
  refine j_iload_n hg 1 dS_take_10 rfl rfl ?_
  refine j_aload_n hg 0 dS_take_11 rfl rfl ?_
  refine j_get hg (C := RX3) (T := TX3) (N := 12) inX3 2 rfl rfl 3 (by decide) m86 rfl dS_take_12 ?_
  refine j_iadd hg (v := nI (j + on)) dS_take_15 (nI_add j on) ?_
  refine j_sipush hg (v := 800) dS_take_16 (by decide) ?_
  refine j_nle_t hg (tgt := 25) (j + on) 800 rfl rfl (by omega) (by omega) (by omega) dS_take_19 (by decide) ?_
  refine j_aload_n hg 0 dS_take_25 rfl rfl ?_
  refine j_get hg (C := RX3) (T := TX3) (N := 12) inX3 2 rfl rfl 2 (by decide) m85 rfl dS_take_26 ?_
  refine j_iconst hg (v := 0) dS_take_29 (by decide) ?_
  refine j_aload_n hg 0 dS_take_30 rfl rfl ?_
  refine j_get hg (C := RX3) (T := TX3) (N := 12) inX3 2 rfl rfl 0 (by decide) m83 rfl dS_take_31 ?_
  refine j_iload_n hg 1 dS_take_34 rfl rfl ?_
  refine j_aload_n hg 0 dS_take_35 rfl rfl ?_
  refine j_get hg (C := RX3) (T := TX3) (N := 12) inX3 2 rfl rfl 3 (by decide) m86 rfl dS_take_36 ?_
  refine j_copyB hg (ws' := [aB E xt 800 (va_cpy o f 0 j on), aB E xo 816 o, ob h 3 [.ref xt, .int (nI tn), .ref xo, .int (nI on), .ref xk, .ref xn, .ref xb, .ref xz, .ref xm, .ref xs, .ref xp, .ref xd]]) 1 0 0 j on ⟨m139, m141, m140, m6⟩ rfl rfl rfl rfl rfl (by omega) (by omega) (by omega) (by omega) (fun t _ => hb _) (Nat.le_of_ble_eq_true rfl) (Nat.le_of_ble_eq_true rfl) rfl dS_take_39 ?_
  refine j_aload_n hg 0 dS_take_42 rfl rfl ?_
  refine j_iload_n hg 1 dS_take_43 rfl rfl ?_
  refine j_aload_n hg 0 dS_take_44 rfl rfl ?_
  refine j_get hg (C := RX3) (T := TX3) (N := 12) inX3 2 rfl rfl 3 (by decide) m86 rfl dS_take_45 ?_
  refine j_iadd hg (v := nI (j + on)) dS_take_48 (nI_add j on) ?_
  refine j_put hg (C := RX3) (T := TX3) (N := 12) (ty := .int) (ws' := [aB E xt 800 (va_cpy o f 0 j on), aB E xo 816 o, ob h 3 [.ref xt, .int (nI (j + on)), .ref xo, .int (nI on), .ref xk, .ref xn, .ref xb, .ref xz, .ref xm, .ref xs, .ref xp, .ref xd]]) inX3 tyX3 tyX3_ok nmX3 2 rfl rfl 1 (by decide) m84 rfl (by decide +kernel) rfl rfl (Nat.le_of_ble_eq_true rfl) rfl dS_take_49 ?_
  refine j_aload_n hg 0 dS_take_52 rfl rfl ?_
  refine j_get hg (C := RX3) (T := TX3) (N := 12) inX3 2 rfl rfl 1 (by decide) m84 rfl dS_take_53 ?_
  exact j_iret hg hR rfl () trivial rfl [2, 0, 1] rfl (by decide) (by decide) (by decide) dS_take_56

def rm_S_key : Room := { frames := 1, cells := 0, slots := 0, locals := 18 }
set_option maxHeartbeats 1000000 in
set_option maxRecDepth 100000 in
theorem c_S_key_n (l : Launch) (E : Ev) (h xt xo xk xn xb xz xm xs xp xd : Nat) (tn on : Nat) (h1 : tn ≠ 32) (ht : tn < 2147483648) : MC E l yS_key (cT yS_key cS_key 2 (some .int)) rm_S_key [.ref h] [ob h 3 [.ref xt, .int (nI tn), .ref xo, .int (nI on), .ref xk, .ref xn, .ref xb, .ref xz, .ref xm, .ref xs, .ref xp, .ref xd]] Unit (fun _ => True) (fun _ => some (.int (-1))) (fun _ => [ob h 3 [.ref xt, .int 0, .ref xo, .int (nI on), .ref xk, .ref xn, .ref xb, .ref xz, .ref xm, .ref xs, .ref xp, .ref xd]]) := by
  refine MC.of (cc := cS_key) (nL := 2) (ret := (some .int)) (by decide) rfl cT_in (Nat.le_of_ble_eq_true rfl) (fun g hg hR => ?_)
  show J E 2 g [ob h 3 [.ref xt, .int (nI tn), .ref xo, .int (nI on), .ref xk, .ref xn, .ref xb, .ref xz, .ref xm, .ref xs, .ref xp, .ref xd]] [(0, .ref h)] 0 0 0 []
  refine j_aload_n hg 0 dS_key_0 rfl rfl ?_
  refine j_get hg (C := RX3) (T := TX3) (N := 12) inX3 0 rfl rfl 1 (by decide) m84 rfl dS_key_1 ?_
  refine j_bipush hg (v := 32) dS_key_4 (by decide) ?_
  refine j_nne_t hg (tgt := 13) tn 32 rfl rfl (by omega) (by omega) (by omega) dS_key_6 (by decide) ?_
  refine j_iconst hg (v := 0) dS_key_13 (by decide) ?_
  refine j_istore_n hg (lv' := [(1, .int 0), (0, .ref h)]) dS_key_14 rfl (by decide) rfl ?_
  refine j_iload_n hg 0 dS_key_15 rfl rfl ?_
  refine j_zeq_t hg (tgt := 34) 0 rfl (by omega) (by omega) dS_key_16 (by decide) ?_
  refine j_aload_n hg 1 dS_key_34 rfl rfl ?_
  refine j_iconst hg (v := 0) dS_key_35 (by decide) ?_
  refine j_put hg (C := RX3) (T := TX3) (N := 12) (ty := .int) (ws' := [ob h 3 [.ref xt, .int 0, .ref xo, .int (nI on), .ref xk, .ref xn, .ref xb, .ref xz, .ref xm, .ref xs, .ref xp, .ref xd]]) inX3 tyX3 tyX3_ok nmX3 0 rfl rfl 1 (by decide) m84 rfl (by decide +kernel) rfl rfl (Nat.le_of_ble_eq_true rfl) rfl dS_key_36 ?_
  refine j_iload_n hg 0 dS_key_39 rfl rfl ?_
  refine j_zeq_t hg (tgt := 47) 0 rfl (by omega) (by omega) dS_key_40 (by decide) ?_
  refine j_iconst hg (v := -1) dS_key_47 (by decide) ?_
  exact j_iret hg hR rfl () trivial rfl [0] rfl (by decide) (by decide) (by decide) dS_key_48

set_option maxHeartbeats 1000000 in
set_option maxRecDepth 100000 in
theorem c_S_key_y (l : Launch) (E : Ev) (h xt xo xk xn xb xz xm xs xp xd : Nat) (tn on : Nat) (f fk : Nat → Int32) (h1 : tn = 32) (hb : Byt f) : MC E l yS_key (cT yS_key cS_key 2 (some .int)) rm_S_key [.ref h] [ob h 3 [.ref xt, .int (nI tn), .ref xo, .int (nI on), .ref xk, .ref xn, .ref xb, .ref xz, .ref xm, .ref xs, .ref xp, .ref xd], aB E xt 800 f, aB E xk 32 fk] Unit (fun _ => True) (fun _ => some (.int 0)) (fun _ => [ob h 3 [.ref xt, .int 0, .ref xo, .int (nI on), .ref xk, .ref xn, .ref xb, .ref xz, .ref xm, .ref xs, .ref xp, .ref xd], aB E xt 800 f, aB E xk 32 (va_cpy f fk 0 0 32)]) := by
  refine MC.of (cc := cS_key) (nL := 2) (ret := (some .int)) (by decide) rfl cT_in (Nat.le_of_ble_eq_true rfl) (fun g hg hR => ?_)
  show J E 2 g [ob h 3 [.ref xt, .int (nI tn), .ref xo, .int (nI on), .ref xk, .ref xn, .ref xb, .ref xz, .ref xm, .ref xs, .ref xp, .ref xd], aB E xt 800 f, aB E xk 32 fk] [(0, .ref h)] 0 0 0 []
  refine j_aload_n hg 0 dS_key_0 rfl rfl ?_
  refine j_get hg (C := RX3) (T := TX3) (N := 12) inX3 0 rfl rfl 1 (by decide) m84 rfl dS_key_1 ?_
  refine j_bipush hg (v := 32) dS_key_4 (by decide) ?_
  refine j_nne_f hg (tgt := 13) tn 32 rfl rfl (by omega) (by omega) (by omega) dS_key_6 (by decide) ?_
  refine j_iconst hg (v := 1) dS_key_9 (by decide) ?_
  refine j_goto hg (tgt := 14) dS_key_10 (by decide) ?_
  refine j_istore_n hg (lv' := [(1, .int 1), (0, .ref h)]) dS_key_14 rfl (by decide) rfl ?_
  refine j_iload_n hg 0 dS_key_15 rfl rfl ?_
  refine j_zeq_f hg (tgt := 34) 1 rfl (by omega) (by omega) dS_key_16 (by decide) ?_
  refine j_aload_n hg 1 dS_key_19 rfl rfl ?_
  refine j_get hg (C := RX3) (T := TX3) (N := 12) inX3 0 rfl rfl 0 (by decide) m83 rfl dS_key_20 ?_
  refine j_iconst hg (v := 0) dS_key_23 (by decide) ?_
  refine j_aload_n hg 1 dS_key_24 rfl rfl ?_
  refine j_get hg (C := RX3) (T := TX3) (N := 12) inX3 0 rfl rfl 4 (by decide) m87 rfl dS_key_25 ?_
  refine j_iconst hg (v := 0) dS_key_28 (by decide) ?_
  refine j_bipush hg (v := 32) dS_key_29 (by decide) ?_
  refine j_copyB hg (ws' := [ob h 3 [.ref xt, .int (nI tn), .ref xo, .int (nI on), .ref xk, .ref xn, .ref xb, .ref xz, .ref xm, .ref xs, .ref xp, .ref xd], aB E xt 800 f, aB E xk 32 (va_cpy f fk 0 0 32)]) 1 2 0 0 32 ⟨m139, m141, m140, m6⟩ rfl rfl rfl rfl rfl (by omega) (by omega) (by omega) (by omega) (fun t _ => hb _) (Nat.le_of_ble_eq_true rfl) (Nat.le_of_ble_eq_true rfl) rfl dS_key_31 ?_
  refine j_aload_n hg 1 dS_key_34 rfl rfl ?_
  refine j_iconst hg (v := 0) dS_key_35 (by decide) ?_
  refine j_put hg (C := RX3) (T := TX3) (N := 12) (ty := .int) (ws' := [ob h 3 [.ref xt, .int 0, .ref xo, .int (nI on), .ref xk, .ref xn, .ref xb, .ref xz, .ref xm, .ref xs, .ref xp, .ref xd], aB E xt 800 f, aB E xk 32 (va_cpy f fk 0 0 32)]) inX3 tyX3 tyX3_ok nmX3 0 rfl rfl 1 (by decide) m84 rfl (by decide +kernel) rfl rfl (Nat.le_of_ble_eq_true rfl) rfl dS_key_36 ?_
  refine j_iload_n hg 0 dS_key_39 rfl rfl ?_
  refine j_zeq_f hg (tgt := 47) 1 rfl (by omega) (by omega) dS_key_40 (by decide) ?_
  refine j_iconst hg (v := 0) dS_key_43 (by decide) ?_
  refine j_goto hg (tgt := 48) dS_key_44 (by decide) ?_
  exact j_iret hg hR rfl () trivial rfl [0, 1, 2] rfl (by decide) (by decide) (by decide) dS_key_48

def rm_S_nonce : Room := { frames := 1, cells := 0, slots := 0, locals := 22 }
set_option maxHeartbeats 1000000 in
set_option maxRecDepth 100000 in
theorem c_S_nonce (l : Launch) (E : Ev) (h xt xo xk xn xb xz xm xs xp xd : Nat) (tn on : Nat) (fn : Nat → Int32) (a : Int32) (b : Int64) : MC E l yS_nonce (cT yS_nonce cS_nonce 4 none) rm_S_nonce [.ref h, .int a, .long b] [ob h 3 [.ref xt, .int (nI tn), .ref xo, .int (nI on), .ref xk, .ref xn, .ref xb, .ref xz, .ref xm, .ref xs, .ref xp, .ref xd], aB E xn 12 fn] Unit (fun _ => True) (fun _ => none) (fun _ => [ob h 3 [.ref xt, .int (nI tn), .ref xo, .int (nI on), .ref xk, .ref xn, .ref xb, .ref xz, .ref xm, .ref xs, .ref xp, .ref xd], aB E xn 12 (wh (wh (wh fn 0 a) 4 (lushr b 32).toInt32) 8 b.toInt32)]) := by
  refine MC.of (cc := cS_nonce) (nL := 4) (ret := none) (by decide) rfl cT_in (Nat.le_of_ble_eq_true rfl) (fun g hg hR => ?_)
  show J E 4 g [ob h 3 [.ref xt, .int (nI tn), .ref xo, .int (nI on), .ref xk, .ref xn, .ref xb, .ref xz, .ref xm, .ref xs, .ref xp, .ref xd], aB E xn 12 fn] [(0, .ref h), (1, .int a), (2, .long b)] 0 0 0 []
  refine j_aload_n hg 0 dS_nonce_0 rfl rfl ?_
  refine j_get hg (C := RX3) (T := TX3) (N := 12) inX3 0 rfl rfl 5 (by decide) m88 rfl dS_nonce_1 ?_
  refine j_iconst hg (v := 0) dS_nonce_4 (by decide) ?_
  refine j_iload_n hg 1 dS_nonce_5 rfl rfl ?_
  refine j_callS hg (n := 3) (y := yS_writeHighestFirst) (rm := rm_S_writeHighestFirst) (Ws := (cT yS_writeHighestFirst cS_writeHighestFirst 3 none)) (As := [.ref xn, .int 0, .int a]) (rest := []) (wr := [ob h 3 [.ref xt, .int (nI tn), .ref xo, .int (nI on), .ref xk, .ref xn, .ref xb, .ref xz, .ref xm, .ref xs, .ref xp, .ref xd]]) (c_S_writeHighestFirst l E xn 12 fn 0 a (by omega) (by omega)) (gdS m124 m125 m1 m126) rfl (by decide +kernel) ⟨by decide, by decide⟩ rfl rfl (Nat.le_of_ble_eq_true rfl) ⟨by decide, by decide⟩ [1] [0] rfl rfl (by decide) (by decide) (by decide) dS_nonce_6 (fun _ _ => ?_)
  show J E 4 g [ob h 3 [.ref xt, .int (nI tn), .ref xo, .int (nI on), .ref xk, .ref xn, .ref xb, .ref xz, .ref xm, .ref xs, .ref xp, .ref xd], aB E xn 12 (wh fn 0 a)] [(0, .ref h), (1, .int a), (2, .long b)] 0 0 9 []
  refine j_aload_n hg 0 dS_nonce_9 rfl rfl ?_
  refine j_get hg (C := RX3) (T := TX3) (N := 12) inX3 0 rfl rfl 5 (by decide) m88 rfl dS_nonce_10 ?_
  refine j_iconst hg (v := 4) dS_nonce_13 (by decide) ?_
  refine j_lload_n hg 2 dS_nonce_14 rfl rfl ?_
  refine j_bipush hg (v := 32) dS_nonce_15 (by decide) ?_
  refine j_lushr hg (v := lushr b 32) dS_nonce_17 rfl ?_
  refine j_l2i hg (v := (lushr b 32).toInt32) dS_nonce_18 rfl ?_
  refine j_callS hg (n := 3) (y := yS_writeHighestFirst) (rm := rm_S_writeHighestFirst) (Ws := (cT yS_writeHighestFirst cS_writeHighestFirst 3 none)) (As := [.ref xn, .int 4, .int ((lushr b 32).toInt32)]) (rest := []) (wr := [ob h 3 [.ref xt, .int (nI tn), .ref xo, .int (nI on), .ref xk, .ref xn, .ref xb, .ref xz, .ref xm, .ref xs, .ref xp, .ref xd]]) (c_S_writeHighestFirst l E xn 12 (wh fn 0 a) 4 ((lushr b 32).toInt32) (by omega) (by omega)) (gdS m124 m125 m1 m126) rfl (by decide +kernel) ⟨by decide, by decide⟩ rfl rfl (Nat.le_of_ble_eq_true rfl) ⟨by decide, by decide⟩ [1] [0] rfl rfl (by decide) (by decide) (by decide) dS_nonce_19 (fun _ _ => ?_)
  show J E 4 g [ob h 3 [.ref xt, .int (nI tn), .ref xo, .int (nI on), .ref xk, .ref xn, .ref xb, .ref xz, .ref xm, .ref xs, .ref xp, .ref xd], aB E xn 12 (wh (wh fn 0 a) 4 ((lushr b 32).toInt32))] [(0, .ref h), (1, .int a), (2, .long b)] 0 0 22 []
  refine j_aload_n hg 0 dS_nonce_22 rfl rfl ?_
  refine j_get hg (C := RX3) (T := TX3) (N := 12) inX3 0 rfl rfl 5 (by decide) m88 rfl dS_nonce_23 ?_
  refine j_bipush hg (v := 8) dS_nonce_26 (by decide) ?_
  refine j_lload_n hg 2 dS_nonce_28 rfl rfl ?_
  refine j_l2i hg (v := b.toInt32) dS_nonce_29 rfl ?_
  refine j_callS hg (n := 3) (y := yS_writeHighestFirst) (rm := rm_S_writeHighestFirst) (Ws := (cT yS_writeHighestFirst cS_writeHighestFirst 3 none)) (As := [.ref xn, .int 8, .int b.toInt32]) (rest := []) (wr := [ob h 3 [.ref xt, .int (nI tn), .ref xo, .int (nI on), .ref xk, .ref xn, .ref xb, .ref xz, .ref xm, .ref xs, .ref xp, .ref xd]]) (c_S_writeHighestFirst l E xn 12 (wh (wh fn 0 a) 4 ((lushr b 32).toInt32)) 8 b.toInt32 (by omega) (by omega)) (gdS m124 m125 m1 m126) rfl (by decide +kernel) ⟨by decide, by decide⟩ rfl rfl (Nat.le_of_ble_eq_true rfl) ⟨by decide, by decide⟩ [1] [0] rfl rfl (by decide) (by decide) (by decide) dS_nonce_30 (fun _ _ => ?_)
  show J E 4 g [ob h 3 [.ref xt, .int (nI tn), .ref xo, .int (nI on), .ref xk, .ref xn, .ref xb, .ref xz, .ref xm, .ref xs, .ref xp, .ref xd], aB E xn 12 (wh (wh (wh fn 0 a) 4 ((lushr b 32).toInt32)) 8 b.toInt32)] [(0, .ref h), (1, .int a), (2, .long b)] 0 0 33 []
  exact j_vret hg hR () trivial rfl [0, 1] rfl (by decide) (by decide) (by decide) dS_nonce_33

def rm_S_stream : Room := { frames := 4, cells := 0, slots := 0, locals := 90 }
set_option maxHeartbeats 1000000 in
set_option maxRecDepth 100000 in
theorem c_S_stream (l : Launch) (E : Ev) (h xt xo xk xn xb xz xm xs xp xd : Nat) (tn on : Nat) (c1 c2 : Nat) (f m fk fn : Nat → Int32) (o : Nat → Int32) (c : Int32) : MC E l yS_stream (cT yS_stream cS_stream 2 (some .int)) rm_S_stream [.ref h, .int c] [ob h 3 [.ref xt, .int (nI tn), .ref xo, .int (nI on), .ref xk, .ref xn, .ref xb, .ref xz, .ref xm, .ref xs, .ref xp, .ref xd], ob xs 0 [.ref c1, .ref c2], aI E c1 16 f, aI E c2 16 m, aB E xk 32 fk, aB E xn 12 fn, aB E xo 816 o] Unit (fun _ => True) (fun _ => some (.int 64)) (fun _ => [ob h 3 [.ref xt, .int (nI tn), .ref xo, .int 64, .ref xk, .ref xn, .ref xb, .ref xz, .ref xm, .ref xs, .ref xp, .ref xd], ob xs 0 [.ref c1, .ref c2], aI E c1 16 (layF f fk fn c), aI E c2 16 (mixF f m fk fn c), aB E xk 32 fk, aB E xn 12 fn, aB E xo 816 (fillF o f m fk fn c)]) := by
  refine MC.of (cc := cS_stream) (nL := 2) (ret := (some .int)) (by decide) rfl cT_in (Nat.le_of_ble_eq_true rfl) (fun g hg hR => ?_)
  show J E 2 g [ob h 3 [.ref xt, .int (nI tn), .ref xo, .int (nI on), .ref xk, .ref xn, .ref xb, .ref xz, .ref xm, .ref xs, .ref xp, .ref xd], ob xs 0 [.ref c1, .ref c2], aI E c1 16 f, aI E c2 16 m, aB E xk 32 fk, aB E xn 12 fn, aB E xo 816 o] [(0, .ref h), (1, .int c)] 0 0 0 []
  refine j_aload_n hg 0 dS_stream_0 rfl rfl ?_
  refine j_get hg (C := RX3) (T := TX3) (N := 12) inX3 0 rfl rfl 9 (by decide) m92 rfl dS_stream_1 ?_
  refine j_aload_n hg 0 dS_stream_4 rfl rfl ?_
  refine j_get hg (C := RX3) (T := TX3) (N := 12) inX3 0 rfl rfl 2 (by decide) m85 rfl dS_stream_5 ?_
  refine j_aload_n hg 0 dS_stream_8 rfl rfl ?_
  refine j_get hg (C := RX3) (T := TX3) (N := 12) inX3 0 rfl rfl 4 (by decide) m87 rfl dS_stream_9 ?_
  refine j_aload_n hg 0 dS_stream_12 rfl rfl ?_
  refine j_get hg (C := RX3) (T := TX3) (N := 12) inX3 0 rfl rfl 5 (by decide) m88 rfl dS_stream_13 ?_
  refine j_iload_n hg 1 dS_stream_16 rfl rfl ?_
  refine j_callV hg (n := 4) (y := yC_fill) (rm := rm_C_fill) (Ws := (cT yC_fill cC_fill 6 none)) (As := [.ref xo, .ref xk, .ref xn, .int c]) (rest := []) (wr := [ob h 3 [.ref xt, .int (nI tn), .ref xo, .int (nI on), .ref xk, .ref xn, .ref xb, .ref xz, .ref xm, .ref xs, .ref xp, .ref xd]]) 0 rfl rfl (c_C_fill l E xs c1 c2 xk xn xo 816 o f m fk fn c (by omega) (by omega)) (gdV m154 m155 m156 m2 m157) rfl (by decide +kernel) ⟨by decide, by decide⟩ rfl rfl (Nat.le_of_ble_eq_true rfl) ⟨by decide, by decide⟩ [1, 2, 3, 4, 5, 6] [0] rfl rfl (by decide) (by decide) (by decide) dS_stream_17 (fun _ _ => ?_)
  show J E 2 g [ob h 3 [.ref xt, .int (nI tn), .ref xo, .int (nI on), .ref xk, .ref xn, .ref xb, .ref xz, .ref xm, .ref xs, .ref xp, .ref xd], ob xs 0 [.ref c1, .ref c2], aI E c1 16 (layF f fk fn c), aI E c2 16 (mixF f m fk fn c), aB E xk 32 fk, aB E xn 12 fn, aB E xo 816 (fillF o f m fk fn c)] [(0, .ref h), (1, .int c)] 0 0 20 []
  refine j_aload_n hg 0 dS_stream_20 rfl rfl ?_
  refine j_bipush hg (v := 64) dS_stream_21 (by decide) ?_
  refine j_put hg (C := RX3) (T := TX3) (N := 12) (ty := .int) (ws' := [ob h 3 [.ref xt, .int (nI tn), .ref xo, .int 64, .ref xk, .ref xn, .ref xb, .ref xz, .ref xm, .ref xs, .ref xp, .ref xd], ob xs 0 [.ref c1, .ref c2], aI E c1 16 (layF f fk fn c), aI E c2 16 (mixF f m fk fn c), aB E xk 32 fk, aB E xn 12 fn, aB E xo 816 (fillF o f m fk fn c)]) inX3 tyX3 tyX3_ok nmX3 0 rfl rfl 3 (by decide) m86 rfl (by decide +kernel) rfl rfl (Nat.le_of_ble_eq_true rfl) rfl dS_stream_23 ?_
  refine j_aload_n hg 0 dS_stream_26 rfl rfl ?_
  refine j_get hg (C := RX3) (T := TX3) (N := 12) inX3 0 rfl rfl 3 (by decide) m86 rfl dS_stream_27 ?_
  exact j_iret hg hR rfl () trivial rfl [0, 1, 2, 3, 4, 5, 6] rfl (by decide) (by decide) (by decide) dS_stream_30

def rm_S_octet : Room := { frames := 0, cells := 0, slots := 0, locals := 0 }
set_option maxHeartbeats 1000000 in
set_option maxRecDepth 100000 in
theorem c_S_octet_m (l : Launch) (E : Ev) (h xt xo xk xn xb xz xm xs xp xd : Nat) (tn on : Nat) : MC E l yS_octet (cT yS_octet cS_octet 2 (some .int)) rm_S_octet [.ref h, .int (-1)] [ob h 3 [.ref xt, .int (nI tn), .ref xo, .int (nI on), .ref xk, .ref xn, .ref xb, .ref xz, .ref xm, .ref xs, .ref xp, .ref xd]] Unit (fun _ => True) (fun _ => some (.int (nI on))) (fun _ => [ob h 3 [.ref xt, .int (nI tn), .ref xo, .int (nI on), .ref xk, .ref xn, .ref xb, .ref xz, .ref xm, .ref xs, .ref xp, .ref xd]]) := by
  refine MC.of (cc := cS_octet) (nL := 2) (ret := (some .int)) (by decide) rfl cT_in (Nat.le_of_ble_eq_true rfl) (fun g hg hR => ?_)
  show J E 2 g [ob h 3 [.ref xt, .int (nI tn), .ref xo, .int (nI on), .ref xk, .ref xn, .ref xb, .ref xz, .ref xm, .ref xs, .ref xp, .ref xd]] [(0, .ref h), (1, .int (-1))] 0 0 0 []
  refine j_iload_n hg 1 dS_octet_0 rfl rfl ?_
  refine j_iconst hg (v := -1) dS_octet_1 (by decide) ?_
  refine j_icmp_ne hg (tgt := 10) dS_octet_2 (by decide) (fun c => absurd rfl c) (fun _ => ?_)
  refine j_aload_n hg 0 dS_octet_5 rfl rfl ?_
  refine j_get hg (C := RX3) (T := TX3) (N := 12) inX3 0 rfl rfl 3 (by decide) m86 rfl dS_octet_6 ?_
  exact j_iret hg hR rfl () trivial rfl [0] rfl (by decide) (by decide) (by decide) dS_octet_9
