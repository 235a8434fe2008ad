/-! The reference's public methods. -/
theorem Byt.st4 {s : Nat → Int32} {i : Nat} {x : Int32} (h : Byt s) : ∀ j, Byt (st4 s i x j)
  | 0 => h
  | j + 1 => (Byt.st4 h j).up (sB_fit _)
theorem Byt.stm {s v b : Nat → Int32} (h : Byt s) : ∀ i, Byt (stm s v b i)
  | 0 => h
  | i + 1 => (Byt.stm h i).st4 4
theorem Byt.msF {s b v fk fn : Nat → Int32} {c : Int32} (h : Byt s) : Byt (msF s b v fk fn c) := Byt.stm h 16
theorem Byt.tgS {s b tg : Nat → Int32} (h : Byt tg) : ∀ k, Byt (tgS s b tg k).2
  | 0 => h
  | k + 1 => (Byt.tgS h k).up (sB_fit _)
theorem smF_tg {y : S5} {b tx : Nat → Int32} {n : Nat} (h : Byt y.2.2.2.2) : Byt (smF y b tx n).2.2.2.2 := by
  rw [smF_eq]
  exact Byt.tgS h 16
theorem byt_mcov {x : MCS} {fk fn ta : Nat → Int32} {f : Nat} (h : Byt x.1) (h2 : Byt x.2.2.2) : ∀ i, Byt (mcov x fk fn ta f i).1 ∧ Byt (mcov x fk fn ta f i).2.2.2
  | 0 => ⟨h, h2⟩
  | i + 1 => by
    have e : mcov x fk fn ta f (i + 1) = mcv0 (mcov x fk fn ta f i) fk fn ta f i := by show mcvF _ _ _ _ _ _ = _; rw [mcvF_eq]
    have ih := byt_mcov (fk := fk) (fn := fn) (ta := ta) (f := f) h h2 i
    rw [e]
    unfold mcv0
    split
    · exact ⟨ih.1.up (sB_fit _), ih.2.msF⟩
    · exact ⟨ih.1.up (sB_fit _), ih.2⟩
theorem Byt.cp0 {t o : Nat → Int32} (h : Byt t) (h2 : Byt o) : ∀ i, Byt (cp0 t o i)
  | 0 => h
  | i + 1 => (Byt.cp0 h h2 i).up (h2 i)
theorem Byt.cpT {t o : Nat → Int32} {k : Nat} (h : Byt t) (h2 : Byt o) : ∀ i, Byt (cpT t o k i)
  | 0 => h
  | i + 1 => (Byt.cpT h h2 i).up (h2 i)
def isN (ta tg : Nat → Int32) (p : Nat) : Nat → Int32
  | 0 => 1
  | k + 1 => if ¬ isN ta tg p k = 0 ∧ ta (p + k) = tg k then 1 else 0

def rm_M_feed : Room := { frames := 1, cells := 0, slots := 0, locals := 22 }
set_option maxHeartbeats 1000000 in
set_option maxRecDepth 100000 in
theorem c_M_feed_full (l : Launch) (E : Ev) (h mt mo mk mn mr mh mw mi mv mb ms mu mp mc mx mg ma : Nat) (tn on rc tx : Nat) (a b c d e : Int32) (h1 : 780 < tn) (ht : tn < 1000000) : MC E l yM_feed (cT yM_feed cM_feed 6 (some .int)) rm_M_feed [.ref h, .int a, .int b, .int c, .int d, .int e] [ob h 4 [.ref mt, .int (nI tn), .ref mo, .int (nI on), .ref mk, .ref mn, .ref mr, .int (nI rc), .ref mh, .ref mw, .ref mi, .ref mv, .ref mb, .ref ms, .ref mu, .ref mp, .ref mc, .ref mx, .ref mg, .ref ma, .int (nI tx)]] Unit (fun _ => True) (fun _ => some (.int (-3))) (fun _ => [ob h 4 [.ref mt, .int (nI tn), .ref mo, .int (nI on), .ref mk, .ref mn, .ref mr, .int (nI rc), .ref mh, .ref mw, .ref mi, .ref mv, .ref mb, .ref ms, .ref mu, .ref mp, .ref mc, .ref mx, .ref mg, .ref ma, .int (nI tx)]]) := by
  refine MC.of (cc := cM_feed) (nL := 6) (ret := (some .int)) (by decide) rfl cT_in (Nat.le_of_ble_eq_true rfl) (fun g hg hR => ?_)
  show J E 6 g [ob h 4 [.ref mt, .int (nI tn), .ref mo, .int (nI on), .ref mk, .ref mn, .ref mr, .int (nI rc), .ref mh, .ref mw, .ref mi, .ref mv, .ref mb, .ref ms, .ref mu, .ref mp, .ref mc, .ref mx, .ref mg, .ref ma, .int (nI tx)]] [(0, .ref h), (1, .int a), (2, .int b), (3, .int c), (4, .int d), (5, .int e)] 0 0 0 []
  refine j_aload_n hg 0 dM_feed_0 rfl rfl ?_
  refine j_get hg (C := RX4) (T := TX4) (N := 21) inX4 0 rfl rfl 1 (by decide) m329 rfl dM_feed_1 ?_
  refine j_bipush hg (v := 20) dM_feed_4 (by decide) ?_
  refine j_iadd hg (v := nI (tn + 20)) dM_feed_6 (nI_add tn 20) ?_
  refine j_sipush hg (v := 800) dM_feed_7 (by decide) ?_
  refine j_nle_f hg (tgt := 16) (tn + 20) 800 rfl rfl (by omega) (by omega) (by omega) dM_feed_10 (by decide) ?_
  refine j_bipush hg (v := -3) dM_feed_13 (by decide) ?_
  exact j_iret hg hR rfl () trivial rfl [0] rfl (by decide) (by decide) (by decide) dM_feed_15

set_option maxHeartbeats 1000000 in
set_option maxRecDepth 100000 in
theorem c_M_feed_ok (l : Launch) (E : Ev) (h mt mo mk mn mr mh mw mi mv mb ms mu mp mc mx mg ma : Nat) (tn on rc tx : Nat) (ta : Nat → Int32) (a b c d e : Int32) (h1 : tn ≤ 780) : MC E l yM_feed (cT yM_feed cM_feed 6 (some .int)) rm_M_feed [.ref h, .int a, .int b, .int c, .int d, .int e] [ob h 4 [.ref mt, .int (nI tn), .ref mo, .int (nI on), .ref mk, .ref mn, .ref mr, .int (nI rc), .ref mh, .ref mw, .ref mi, .ref mv, .ref mb, .ref ms, .ref mu, .ref mp, .ref mc, .ref mx, .ref mg, .ref ma, .int (nI tx)], aB E mt 800 ta] Unit (fun _ => True) (fun _ => some (.int (nI (tn + 20)))) (fun _ => [ob h 4 [.ref mt, .int (nI (tn + 20)), .ref mo, .int (nI on), .ref mk, .ref mn, .ref mr, .int (nI rc), .ref mh, .ref mw, .ref mi, .ref mv, .ref mb, .ref ms, .ref mu, .ref mp, .ref mc, .ref mx, .ref mg, .ref ma, .int (nI tx)], aB E mt 800 (pw (pw (pw (pw (pw ta tn a) (tn + 4) b) (tn + 8) c) (tn + 12) d) (tn + 16) e)]) := by
  refine MC.of (cc := cM_feed) (nL := 6) (ret := (some .int)) (by decide) rfl cT_in (Nat.le_of_ble_eq_true rfl) (fun g hg hR => ?_)
  show J E 6 g [ob h 4 [.ref mt, .int (nI tn), .ref mo, .int (nI on), .ref mk, .ref mn, .ref mr, .int (nI rc), .ref mh, .ref mw, .ref mi, .ref mv, .ref mb, .ref ms, .ref mu, .ref mp, .ref mc, .ref mx, .ref mg, .ref ma, .int (nI tx)], aB E mt 800 ta] [(0, .ref h), (1, .int a), (2, .int b), (3, .int c), (4, .int d), (5, .int e)] 0 0 0 []
  refine j_aload_n hg 0 dM_feed_0 rfl rfl ?_
  refine j_get hg (C := RX4) (T := TX4) (N := 21) inX4 0 rfl rfl 1 (by decide) m329 rfl dM_feed_1 ?_
  refine j_bipush hg (v := 20) dM_feed_4 (by decide) ?_
  refine j_iadd hg (v := nI (tn + 20)) dM_feed_6 (nI_add tn 20) ?_
  refine j_sipush hg (v := 800) dM_feed_7 (by decide) ?_
  refine j_nle_t hg (tgt := 16) (tn + 20) 800 rfl rfl (by omega) (by omega) (by omega) dM_feed_10 (by decide) ?_
  refine j_aload_n hg 0 dM_feed_16 rfl rfl ?_
  refine j_iload_n hg 1 dM_feed_17 rfl rfl ?_
  refine j_callV hg (n := 1) (y := yM_put) (rm := rm_M_put) (Ws := (cT yM_put cM_put 3 none)) (As := [.int a]) (rest := []) (wr := []) 0 rfl rfl (c_M_put l E h mt mo mk mn mr mh mw mi mv mb ms mu mp mc mx mg ma tn on rc tx ta a (by omega)) (gdV m396 m398 ms18 m5 m399) rfl (by decide +kernel) ⟨by decide, by decide⟩ rfl rfl (Nat.le_of_ble_eq_true rfl) ⟨by decide, by decide⟩ [0, 1] [] rfl rfl (by decide) (by decide) (by decide) dM_feed_18 (fun _ _ => ?_)
  show J E 6 g [ob h 4 [.ref mt, .int (nI (tn + 4)), .ref mo, .int (nI on), .ref mk, .ref mn, .ref mr, .int (nI rc), .ref mh, .ref mw, .ref mi, .ref mv, .ref mb, .ref ms, .ref mu, .ref mp, .ref mc, .ref mx, .ref mg, .ref ma, .int (nI tx)], aB E mt 800 (pw ta tn a)] [(0, .ref h), (1, .int a), (2, .int b), (3, .int c), (4, .int d), (5, .int e)] 0 0 21 []
  refine j_aload_n hg 0 dM_feed_21 rfl rfl ?_
  refine j_iload_n hg 2 dM_feed_22 rfl rfl ?_
  refine j_callV hg (n := 1) (y := yM_put) (rm := rm_M_put) (Ws := (cT yM_put cM_put 3 none)) (As := [.int b]) (rest := []) (wr := []) 0 rfl rfl (c_M_put l E h mt mo mk mn mr mh mw mi mv mb ms mu mp mc mx mg ma (tn + 4) on rc tx (pw ta tn a) b (by omega)) (gdV m396 m398 ms18 m5 m399) rfl (by decide +kernel) ⟨by decide, by decide⟩ rfl rfl (Nat.le_of_ble_eq_true rfl) ⟨by decide, by decide⟩ [0, 1] [] rfl rfl (by decide) (by decide) (by decide) dM_feed_23 (fun _ _ => ?_)
  show J E 6 g [ob h 4 [.ref mt, .int (nI (tn + 4 + 4)), .ref mo, .int (nI on), .ref mk, .ref mn, .ref mr, .int (nI rc), .ref mh, .ref mw, .ref mi, .ref mv, .ref mb, .ref ms, .ref mu, .ref mp, .ref mc, .ref mx, .ref mg, .ref ma, .int (nI tx)], aB E mt 800 (pw (pw ta tn a) (tn + 4) b)] [(0, .ref h), (1, .int a), (2, .int b), (3, .int c), (4, .int d), (5, .int e)] 0 0 26 []
  refine j_aload_n hg 0 dM_feed_26 rfl rfl ?_
  refine j_iload_n hg 3 dM_feed_27 rfl rfl ?_
  refine j_callV hg (n := 1) (y := yM_put) (rm := rm_M_put) (Ws := (cT yM_put cM_put 3 none)) (As := [.int c]) (rest := []) (wr := []) 0 rfl rfl (c_M_put l E h mt mo mk mn mr mh mw mi mv mb ms mu mp mc mx mg ma (tn + 4 + 4) on rc tx (pw (pw ta tn a) (tn + 4) b) c (by omega)) (gdV m396 m398 ms18 m5 m399) rfl (by decide +kernel) ⟨by decide, by decide⟩ rfl rfl (Nat.le_of_ble_eq_true rfl) ⟨by decide, by decide⟩ [0, 1] [] rfl rfl (by decide) (by decide) (by decide) dM_feed_28 (fun _ _ => ?_)
  show J E 6 g [ob h 4 [.ref mt, .int (nI (tn + 4 + 4 + 4)), .ref mo, .int (nI on), .ref mk, .ref mn, .ref mr, .int (nI rc), .ref mh, .ref mw, .ref mi, .ref mv, .ref mb, .ref ms, .ref mu, .ref mp, .ref mc, .ref mx, .ref mg, .ref ma, .int (nI tx)], aB E mt 800 (pw (pw (pw ta tn a) (tn + 4) b) (tn + 4 + 4) c)] [(0, .ref h), (1, .int a), (2, .int b), (3, .int c), (4, .int d), (5, .int e)] 0 0 31 []
  refine j_aload_n hg 0 dM_feed_31 rfl rfl ?_
  refine j_iload hg 4 dM_feed_32 rfl ?_
  refine j_callV hg (n := 1) (y := yM_put) (rm := rm_M_put) (Ws := (cT yM_put cM_put 3 none)) (As := [.int d]) (rest := []) (wr := []) 0 rfl rfl (c_M_put l E h mt mo mk mn mr mh mw mi mv mb ms mu mp mc mx mg ma (tn + 4 + 4 + 4) on rc tx (pw (pw (pw ta tn a) (tn + 4) b) (tn + 4 + 4) c) d (by omega)) (gdV m396 m398 ms18 m5 m399) rfl (by decide +kernel) ⟨by decide, by decide⟩ rfl rfl (Nat.le_of_ble_eq_true rfl) ⟨by decide, by decide⟩ [0, 1] [] rfl rfl (by decide) (by decide) (by decide) dM_feed_34 (fun _ _ => ?_)
  show J E 6 g [ob h 4 [.ref mt, .int (nI (tn + 4 + 4 + 4 + 4)), .ref mo, .int (nI on), .ref mk, .ref mn, .ref mr, .int (nI rc), .ref mh, .ref mw, .ref mi, .ref mv, .ref mb, .ref ms, .ref mu, .ref mp, .ref mc, .ref mx, .ref mg, .ref ma, .int (nI tx)], aB E mt 800 (pw (pw (pw (pw ta tn a) (tn + 4) b) (tn + 4 + 4) c) (tn + 4 + 4 + 4) d)] [(0, .ref h), (1, .int a), (2, .int b), (3, .int c), (4, .int d), (5, .int e)] 0 0 37 []
  refine j_aload_n hg 0 dM_feed_37 rfl rfl ?_
  refine j_iload hg 5 dM_feed_38 rfl ?_
  refine j_callV hg (n := 1) (y := yM_put) (rm := rm_M_put) (Ws := (cT yM_put cM_put 3 none)) (As := [.int e]) (rest := []) (wr := []) 0 rfl rfl (c_M_put l E h mt mo mk mn mr mh mw mi mv mb ms mu mp mc mx mg ma (tn + 4 + 4 + 4 + 4) on rc tx (pw (pw (pw (pw ta tn a) (tn + 4) b) (tn + 4 + 4) c) (tn + 4 + 4 + 4) d) e (by omega)) (gdV m396 m398 ms18 m5 m399) rfl (by decide +kernel) ⟨by decide, by decide⟩ rfl rfl (Nat.le_of_ble_eq_true rfl) ⟨by decide, by decide⟩ [0, 1] [] rfl rfl (by decide) (by decide) (by decide) dM_feed_40 (fun _ _ => ?_)
  show J E 6 g [ob h 4 [.ref mt, .int (nI (tn + 4 + 4 + 4 + 4 + 4)), .ref mo, .int (nI on), .ref mk, .ref mn, .ref mr, .int (nI rc), .ref mh, .ref mw, .ref mi, .ref mv, .ref mb, .ref ms, .ref mu, .ref mp, .ref mc, .ref mx, .ref mg, .ref ma, .int (nI tx)], aB E mt 800 (pw (pw (pw (pw (pw ta tn a) (tn + 4) b) (tn + 4 + 4) c) (tn + 4 + 4 + 4) d) (tn + 4 + 4 + 4 + 4) e)] [(0, .ref h), (1, .int a), (2, .int b), (3, .int c), (4, .int d), (5, .int e)] 0 0 43 []
  refine j_aload_n hg 0 dM_feed_43 rfl rfl ?_
  refine j_get hg (C := RX4) (T := TX4) (N := 21) inX4 0 rfl rfl 1 (by decide) m329 rfl dM_feed_44 ?_
  exact j_iret hg hR rfl () trivial rfl [0, 1] rfl (by decide) (by decide) (by decide) dM_feed_47

def rm_M_end : Room := { frames := 0, cells := 0, slots := 0, locals := 0 }
set_option maxHeartbeats 1000000 in
set_option maxRecDepth 100000 in
theorem c_M_end_y (l : Launch) (E : Ev) (h mt mo mk mn mr mh mw mi mv mb ms mu mp mc mx mg ma : Nat) (tn on rc tx : Nat) (j : Nat) (hj : j ≤ tn) (ht : tn < 2147483648) : MC E l yM_end (cT yM_end cM_end 2 (some .int)) rm_M_end [.ref h, .int (nI j)] [ob h 4 [.ref mt, .int (nI tn), .ref mo, .int (nI on), .ref mk, .ref mn, .ref mr, .int (nI rc), .ref mh, .ref mw, .ref mi, .ref mv, .ref mb, .ref ms, .ref mu, .ref mp, .ref mc, .ref mx, .ref mg, .ref ma, .int (nI tx)]] Unit (fun _ => True) (fun _ => some (.int (nI j))) (fun _ => [ob h 4 [.ref mt, .int (nI j), .ref mo, .int (nI on), .ref mk, .ref mn, .ref mr, .int (nI rc), .ref mh, .ref mw, .ref mi, .ref mv, .ref mb, .ref ms, .ref mu, .ref mp, .ref mc, .ref mx, .ref mg, .ref ma, .int (nI tx)]]) := by
  refine MC.of (cc := cM_end) (nL := 2) (ret := (some .int)) (by decide) rfl cT_in (Nat.le_of_ble_eq_true rfl) (fun g hg hR => ?_)
  show J E 2 g [ob h 4 [.ref mt, .int (nI tn), .ref mo, .int (nI on), .ref mk, .ref mn, .ref mr, .int (nI rc), .ref mh, .ref mw, .ref mi, .ref mv, .ref mb, .ref ms, .ref mu, .ref mp, .ref mc, .ref mx, .ref mg, .ref ma, .int (nI tx)]] [(0, .ref h), (1, .int (nI j))] 0 0 0 []
  refine j_iload_n hg 1 dM_end_0 rfl rfl ?_
  refine j_zlt_f hg (tgt := 12) j rfl (by omega) (by omega) dM_end_1 (by decide) ?_
  refine j_iload_n hg 1 dM_end_4 rfl rfl ?_
  refine j_aload_n hg 0 dM_end_5 rfl rfl ?_
  refine j_get hg (C := RX4) (T := TX4) (N := 21) inX4 0 rfl rfl 1 (by decide) m329 rfl dM_end_6 ?_
  refine j_nle_t hg (tgt := 14) j tn rfl rfl (by omega) (by omega) (by omega) dM_end_9 (by decide) ?_
  refine j_aload_n hg 0 dM_end_14 rfl rfl ?_
  refine j_iload_n hg 1 dM_end_15 rfl rfl ?_
  refine j_put hg (C := RX4) (T := TX4) (N := 21) (ty := .int) (ws' := [ob h 4 [.ref mt, .int (nI j), .ref mo, .int (nI on), .ref mk, .ref mn, .ref mr, .int (nI rc), .ref mh, .ref mw, .ref mi, .ref mv, .ref mb, .ref ms, .ref mu, .ref mp, .ref mc, .ref mx, .ref mg, .ref ma, .int (nI tx)]]) inX4 tyX4 tyX4_ok nmX4 0 rfl rfl 1 (by decide) m329 rfl (by decide +kernel) rfl rfl (Nat.le_of_ble_eq_true rfl) rfl dM_end_16 ?_
  refine j_iload_n hg 1 dM_end_19 rfl rfl ?_
  exact j_iret hg hR rfl () trivial rfl [0] rfl (by decide) (by decide) (by decide) dM_end_20

set_option maxHeartbeats 1000000 in
set_option maxRecDepth 100000 in
theorem c_M_end_n (l : Launch) (E : Ev) (h mt mo mk mn mr mh mw mi mv mb ms mu mp mc mx mg ma : Nat) (tn on rc tx : Nat) (n : Int32) (hn : rn n tn = none) (ht : tn < 2147483648) : MC E l yM_end (cT yM_end cM_end 2 (some .int)) rm_M_end [.ref h, .int n] [ob h 4 [.ref mt, .int (nI tn), .ref mo, .int (nI on), .ref mk, .ref mn, .ref mr, .int (nI rc), .ref mh, .ref mw, .ref mi, .ref mv, .ref mb, .ref ms, .ref mu, .ref mp, .ref mc, .ref mx, .ref mg, .ref ma, .int (nI tx)]] Unit (fun _ => True) (fun _ => some (.int (-1))) (fun _ => [ob h 4 [.ref mt, .int (nI tn), .ref mo, .int (nI on), .ref mk, .ref mn, .ref mr, .int (nI rc), .ref mh, .ref mw, .ref mi, .ref mv, .ref mb, .ref ms, .ref mu, .ref mp, .ref mc, .ref mx, .ref mg, .ref ma, .int (nI tx)]]) := by
  refine MC.of (cc := cM_end) (nL := 2) (ret := (some .int)) (by decide) rfl cT_in (Nat.le_of_ble_eq_true rfl) (fun g hg hR => ?_)
  show J E 2 g [ob h 4 [.ref mt, .int (nI tn), .ref mo, .int (nI on), .ref mk, .ref mn, .ref mr, .int (nI rc), .ref mh, .ref mw, .ref mi, .ref mv, .ref mb, .ref ms, .ref mu, .ref mp, .ref mc, .ref mx, .ref mg, .ref ma, .int (nI tx)]] [(0, .ref h), (1, .int n)] 0 0 0 []
  refine j_iload_n hg 1 dM_end_0 rfl rfl ?_
  refine j_if_lt hg (tgt := 12) dM_end_1 (by decide) (fun hc => ?_) (fun hc => ?_)
  · skip
    refine j_iconst hg (v := -1) dM_end_12 (by decide) ?_
    exact j_iret hg hR rfl () trivial rfl [0] rfl (by decide) (by decide) (by decide) dM_end_13
  · skip
    obtain ⟨j, hj, rfl⟩ := nI_of hc
    refine j_iload_n hg 1 dM_end_4 rfl rfl ?_
    refine j_aload_n hg 0 dM_end_5 rfl rfl ?_
    refine j_get hg (C := RX4) (T := TX4) (N := 21) inX4 0 rfl rfl 1 (by decide) m329 rfl dM_end_6 ?_
    refine j_nle_f hg (tgt := 14) j tn rfl rfl (by omega) (by omega) (rn_lt hj hn) dM_end_9 (by decide) ?_
    refine j_iconst hg (v := -1) dM_end_12 (by decide) ?_
    exact j_iret hg hR rfl () trivial rfl [0] rfl (by decide) (by decide) (by decide) dM_end_13

def rm_M_take : Room := { frames := 0, cells := 0, slots := 0, locals := 0 }
set_option maxHeartbeats 1000000 in
set_option maxRecDepth 100000 in
theorem c_M_take_n (l : Launch) (E : Ev) (h mt mo mk mn mr mh mw mi mv mb ms mu mp mc mx mg ma : Nat) (tn on rc tx : Nat) (n : Int32) (hn : rn n tn = none) (ht : tn < 2147483648) : MC E l yM_take (cT yM_take cM_take 3 (some .int)) rm_M_take [.ref h, .int n] [ob h 4 [.ref mt, .int (nI tn), .ref mo, .int (nI on), .ref mk, .ref mn, .ref mr, .int (nI rc), .ref mh, .ref mw, .ref mi, .ref mv, .ref mb, .ref ms, .ref mu, .ref mp, .ref mc, .ref mx, .ref mg, .ref ma, .int (nI tx)]] Unit (fun _ => True) (fun _ => some (.int (-1))) (fun _ => [ob h 4 [.ref mt, .int (nI tn), .ref mo, .int (nI on), .ref mk, .ref mn, .ref mr, .int (nI rc), .ref mh, .ref mw, .ref mi, .ref mv, .ref mb, .ref ms, .ref mu, .ref mp, .ref mc, .ref mx, .ref mg, .ref ma, .int (nI tx)]]) := by
  refine MC.of (cc := cM_take) (nL := 3) (ret := (some .int)) (by decide) rfl cT_in (Nat.le_of_ble_eq_true rfl) (fun g hg hR => ?_)
  show J E 3 g [ob h 4 [.ref mt, .int (nI tn), .ref mo, .int (nI on), .ref mk, .ref mn, .ref mr, .int (nI rc), .ref mh, .ref mw, .ref mi, .ref mv, .ref mb, .ref ms, .ref mu, .ref mp, .ref mc, .ref mx, .ref mg, .ref ma, .int (nI tx)]] [(0, .ref h), (1, .int n)] 0 0 0 []
  refine j_iload_n hg 1 dM_take_0 rfl rfl ?_
  refine j_if_lt hg (tgt := 12) dM_take_1 (by decide) (fun hc => ?_) (fun hc => ?_)
  · skip
    refine j_iconst hg (v := -1) dM_take_12 (by decide) ?_
    exact j_iret hg hR rfl () trivial rfl [0] rfl (by decide) (by decide) (by decide) dM_take_13
  · skip
    obtain ⟨j, hj, rfl⟩ := nI_of hc
    refine j_iload_n hg 1 dM_take_4 rfl rfl ?_
    refine j_aload_n hg 0 dM_take_5 rfl rfl ?_
    refine j_get hg (C := RX4) (T := TX4) (N := 21) inX4 0 rfl rfl 1 (by decide) m329 rfl dM_take_6 ?_
    refine j_nle_f hg (tgt := 14) j tn rfl rfl (by omega) (by omega) (rn_lt hj hn) dM_take_9 (by decide) ?_
    refine j_iconst hg (v := -1) dM_take_12 (by decide) ?_
    exact j_iret hg hR rfl () trivial rfl [0] rfl (by decide) (by decide) (by decide) dM_take_13

set_option maxHeartbeats 1000000 in
set_option maxRecDepth 100000 in
theorem c_M_take_full (l : Launch) (E : Ev) (h mt mo mk mn mr mh mw mi mv mb ms mu mp mc mx mg ma : Nat) (tn on rc tx : Nat) (j : Nat) (hj : j ≤ tn) (ht : tn ≤ 800) (ho : on ≤ 816) (h1 : 800 < j + on) : MC E l yM_take (cT yM_take cM_take 3 (some .int)) rm_M_take [.ref h, .int (nI j)] [ob h 4 [.ref mt, .int (nI tn), .ref mo, .int (nI on), .ref mk, .ref mn, .ref mr, .int (nI rc), .ref mh, .ref mw, .ref mi, .ref mv, .ref mb, .ref ms, .ref mu, .ref mp, .ref mc, .ref mx, .ref mg, .ref ma, .int (nI tx)]] Unit (fun _ => True) (fun _ => some (.int (-3))) (fun _ => [ob h 4 [.ref mt, .int (nI tn), .ref mo, .int (nI on), .ref mk, .ref mn, .ref mr, .int (nI rc), .ref mh, .ref mw, .ref mi, .ref mv, .ref mb, .ref ms, .ref mu, .ref mp, .ref mc, .ref mx, .ref mg, .ref ma, .int (nI tx)]]) := by
  refine MC.of (cc := cM_take) (nL := 3) (ret := (some .int)) (by decide) rfl cT_in (Nat.le_of_ble_eq_true rfl) (fun g hg hR => ?_)
  show J E 3 g [ob h 4 [.ref mt, .int (nI tn), .ref mo, .int (nI on), .ref mk, .ref mn, .ref mr, .int (nI rc), .ref mh, .ref mw, .ref mi, .ref mv, .ref mb, .ref ms, .ref mu, .ref mp, .ref mc, .ref mx, .ref mg, .ref ma, .int (nI tx)]] [(0, .ref h), (1, .int (nI j))] 0 0 0 []
  refine j_iload_n hg 1 dM_take_0 rfl rfl ?_
  refine j_zlt_f hg (tgt := 12) j rfl (by omega) (by omega) dM_take_1 (by decide) ?_
  refine j_iload_n hg 1 dM_take_4 rfl rfl ?_
  refine j_aload_n hg 0 dM_take_5 rfl rfl ?_
  refine j_get hg (C := RX4) (T := TX4) (N := 21) inX4 0 rfl rfl 1 (by decide) m329 rfl dM_take_6 ?_
  refine j_nle_t hg (tgt := 14) j tn rfl rfl (by omega) (by omega) (by omega) dM_take_9 (by decide) ?_
  refine j_iload_n hg 1 dM_take_14 rfl rfl ?_
  refine j_aload_n hg 0 dM_take_15 rfl rfl ?_
  refine j_get hg (C := RX4) (T := TX4) (N := 21) inX4 0 rfl rfl 3 (by decide) m331 rfl dM_take_16 ?_
  refine j_iadd hg (v := nI (j + on)) dM_take_19 (nI_add j on) ?_
  refine j_sipush hg (v := 800) dM_take_20 (by decide) ?_
  refine j_nle_f hg (tgt := 29) (j + on) 800 rfl rfl (by omega) (by omega) (by omega) dM_take_23 (by decide) ?_
  refine j_bipush hg (v := -3) dM_take_26 (by decide) ?_
  exact j_iret hg hR rfl () trivial rfl [0] rfl (by decide) (by decide) (by decide) dM_take_28

set_option maxHeartbeats 1000000 in
set_option maxRecDepth 100000 in
theorem c_M_take_ok (l : Launch) (E : Ev) (h mt mo mk mn mr mh mw mi mv mb ms mu mp mc mx mg ma : Nat) (tn on rc tx : Nat) (ta o : Nat → Int32) (j : Nat) (hj : j ≤ tn) (ht : tn ≤ 800) (ho : on ≤ 816) (h1 : j + on ≤ 800) (hb : Byt o) : MC E l yM_take (cT yM_take cM_take 3 (some .int)) rm_M_take [.ref h, .int (nI j)] [ob h 4 [.ref mt, .int (nI tn), .ref mo, .int (nI on), .ref mk, .ref mn, .ref mr, .int (nI rc), .ref mh, .ref mw, .ref mi, .ref mv, .ref mb, .ref ms, .ref mu, .ref mp, .ref mc, .ref mx, .ref mg, .ref ma, .int (nI tx)], aB E mt 800 ta, aB E mo 816 o] Unit (fun _ => True) (fun _ => some (.int (nI (j + on)))) (fun _ => [ob h 4 [.ref mt, .int (nI (j + on)), .ref mo, .int (nI on), .ref mk, .ref mn, .ref mr, .int (nI rc), .ref mh, .ref mw, .ref mi, .ref mv, .ref mb, .ref ms, .ref mu, .ref mp, .ref mc, .ref mx, .ref mg, .ref ma, .int (nI tx)], aB E mt 800 (cpT ta o j on), aB E mo 816 o]) := by
  refine MC.of (cc := cM_take) (nL := 3) (ret := (some .int)) (by decide) rfl cT_in (Nat.le_of_ble_eq_true rfl) (fun g hg hR => ?_)
  show J E 3 g [ob h 4 [.ref mt, .int (nI tn), .ref mo, .int (nI on), .ref mk, .ref mn, .ref mr, .int (nI rc), .ref mh, .ref mw, .ref mi, .ref mv, .ref mb, .ref ms, .ref mu, .ref mp, .ref mc, .ref mx, .ref mg, .ref ma, .int (nI tx)], aB E mt 800 ta, aB E mo 816 o] [(0, .ref h), (1, .int (nI j))] 0 0 0 []
  refine j_iload_n hg 1 dM_take_0 rfl rfl ?_
  refine j_zlt_f hg (tgt := 12) j rfl (by omega) (by omega) dM_take_1 (by decide) ?_
  refine j_iload_n hg 1 dM_take_4 rfl rfl ?_
  refine j_aload_n hg 0 dM_take_5 rfl rfl ?_
  refine j_get hg (C := RX4) (T := TX4) (N := 21) inX4 0 rfl rfl 1 (by decide) m329 rfl dM_take_6 ?_
  refine j_nle_t hg (tgt := 14) j tn rfl rfl (by omega) (by omega) (by omega) dM_take_9 (by decide) ?_
  refine j_iload_n hg 1 dM_take_14 rfl rfl ?_
  refine j_aload_n hg 0 dM_take_15 rfl rfl ?_
  refine j_get hg (C := RX4) (T := TX4) (N := 21) inX4 0 rfl rfl 3 (by decide) m331 rfl dM_take_16 ?_
  refine j_iadd hg (v := nI (j + on)) dM_take_19 (nI_add j on) ?_
  refine j_sipush hg (v := 800) dM_take_20 (by decide) ?_
  refine j_nle_t hg (tgt := 29) (j + on) 800 rfl rfl (by omega) (by omega) (by omega) dM_take_23 (by decide) ?_
  refine j_iconst hg (v := 0) dM_take_29 (by decide) ?_
  refine j_istore_n hg (lv' := [(2, .int 0), (0, .ref h), (1, .int (nI j))]) dM_take_30 rfl (by decide) rfl ?_
  refine j_pick [1, 2, 0] (lv' := [(0, .ref h), (1, .int (nI j)), (2, .int 0)]) rfl ?_
  have loop : ∀ (zk i : Nat), i + zk = on → J E 3 g [ob h 4 [.ref mt, .int (nI tn), .ref mo, .int (nI on), .ref mk, .ref mn, .ref mr, .int (nI rc), .ref mh, .ref mw, .ref mi, .ref mv, .ref mb, .ref ms, .ref mu, .ref mp, .ref mc, .ref mx, .ref mg, .ref ma, .int (nI tx)], aB E mt 800 (cpT ta o j i), aB E mo 816 o] [(0, .ref h), (1, .int (nI j)), (2, .int (nI i))] 0 0 31 [] := by
    intro zk
    induction zk with
    | zero =>
      intro i  hi
      obtain rfl : on = i := by omega
      refine j_iload_n hg 2 dM_take_31 rfl rfl ?_
      refine j_aload_n hg 0 dM_take_32 rfl rfl ?_
      refine j_get hg (C := RX4) (T := TX4) (N := 21) inX4 0 rfl rfl 3 (by decide) m331 rfl dM_take_33 ?_
      refine j_nge_t hg (tgt := 59) on on rfl rfl (by omega) (by omega) (by omega) dM_take_36 (by decide) ?_
      refine j_aload_n hg 0 dM_take_59 rfl rfl ?_
      refine j_iload_n hg 1 dM_take_60 rfl rfl ?_
      refine j_aload_n hg 0 dM_take_61 rfl rfl ?_
      refine j_get hg (C := RX4) (T := TX4) (N := 21) inX4 0 rfl rfl 3 (by decide) m331 rfl dM_take_62 ?_
      refine j_iadd hg (v := nI (j + on)) dM_take_65 (nI_add j on) ?_
      refine j_put hg (C := RX4) (T := TX4) (N := 21) (ty := .int) (ws' := [ob h 4 [.ref mt, .int (nI (j + on)), .ref mo, .int (nI on), .ref mk, .ref mn, .ref mr, .int (nI rc), .ref mh, .ref mw, .ref mi, .ref mv, .ref mb, .ref ms, .ref mu, .ref mp, .ref mc, .ref mx, .ref mg, .ref ma, .int (nI tx)], aB E mt 800 (cpT ta o j on), aB E mo 816 o]) inX4 tyX4 tyX4_ok nmX4 0 rfl rfl 1 (by decide) m329 rfl (by decide +kernel) rfl rfl (Nat.le_of_ble_eq_true rfl) rfl dM_take_66 ?_
      refine j_aload_n hg 0 dM_take_69 rfl rfl ?_
      refine j_get hg (C := RX4) (T := TX4) (N := 21) inX4 0 rfl rfl 1 (by decide) m329 rfl dM_take_70 ?_
      exact j_iret hg hR rfl () trivial rfl [0, 1, 2] rfl (by decide) (by decide) (by decide) dM_take_73
    | succ zk ih =>
      intro i  hi
      refine j_iload_n hg 2 dM_take_31 rfl rfl ?_
      refine j_aload_n hg 0 dM_take_32 rfl rfl ?_
      refine j_get hg (C := RX4) (T := TX4) (N := 21) inX4 0 rfl rfl 3 (by decide) m331 rfl dM_take_33 ?_
      refine j_nge_f hg (tgt := 59) i on rfl rfl (by omega) (by omega) (by omega) dM_take_36 (by decide) ?_
      refine j_aload_n hg 0 dM_take_39 rfl rfl ?_
      refine j_get hg (C := RX4) (T := TX4) (N := 21) inX4 0 rfl rfl 0 (by decide) m328 rfl dM_take_40 ?_
      refine j_iload_n hg 1 dM_take_43 rfl rfl ?_
      refine j_iload_n hg 2 dM_take_44 rfl rfl ?_
      refine j_iadd hg (v := nI (j + i)) dM_take_45 (nI_add j i) ?_
      refine j_aload_n hg 0 dM_take_46 rfl rfl ?_
      refine j_get hg (C := RX4) (T := TX4) (N := 21) inX4 0 rfl rfl 2 (by decide) m330 rfl dM_take_47 ?_
      refine j_iload_n hg 2 dM_take_50 rfl rfl ?_
      refine j_bald hg (v := o i) 2 i rfl rfl (by omega) (by omega) rfl dM_take_51 ?_
      refine j_bast hg (ws' := [ob h 4 [.ref mt, .int (nI tn), .ref mo, .int (nI on), .ref mk, .ref mn, .ref mr, .int (nI rc), .ref mh, .ref mw, .ref mi, .ref mv, .ref mb, .ref ms, .ref mu, .ref mp, .ref mc, .ref mx, .ref mg, .ref ma, .int (nI tx)], aB E mt 800 (upd (cpT ta o j i) (j + i) (o i)), aB E mo 816 o]) 1 (j + i) rfl rfl (by omega) (by omega) (hb.nar _) rfl dM_take_52 ?_
      refine j_iinc hg (kq := 2) (v := nI (i + 1)) (lv' := [(2, .int (nI (i + 1))), (0, .ref h), (1, .int (nI j))]) dM_take_53 rfl (nI_add i 1) (by decide) rfl ?_
      refine j_goto hg (tgt := 31) dM_take_56 (by decide) ?_
      refine j_pick [1, 2, 0] (lv' := [(0, .ref h), (1, .int (nI j)), (2, .int (nI (i + 1)))]) rfl ?_
      exact ih (i + 1) (by omega)
  exact loop (on) 0 (by omega)

def rm_M_key : Room := { frames := 0, cells := 0, slots := 0, locals := 0 }
set_option maxHeartbeats 1000000 in
set_option maxRecDepth 100000 in
theorem c_M_key_n (l : Launch) (E : Ev) (h mt mo mk mn mr mh mw mi mv mb ms mu mp mc mx mg ma : Nat) (tn on rc tx : Nat) (h1 : tn ≠ 32) (ht : tn < 2147483648) : MC E l yM_key (cT yM_key cM_key 3 (some .int)) rm_M_key [.ref h] [ob h 4 [.ref mt, .int (nI tn), .ref mo, .int (nI on), .ref mk, .ref mn, .ref mr, .int (nI rc), .ref mh, .ref mw, .ref mi, .ref mv, .ref mb, .ref ms, .ref mu, .ref mp, .ref mc, .ref mx, .ref mg, .ref ma, .int (nI tx)]] Unit (fun _ => True) (fun _ => some (.int (-1))) (fun _ => [ob h 4 [.ref mt, .int 0, .ref mo, .int (nI on), .ref mk, .ref mn, .ref mr, .int (nI rc), .ref mh, .ref mw, .ref mi, .ref mv, .ref mb, .ref ms, .ref mu, .ref mp, .ref mc, .ref mx, .ref mg, .ref ma, .int (nI tx)]]) := by
  refine MC.of (cc := cM_key) (nL := 3) (ret := (some .int)) (by decide) rfl cT_in (Nat.le_of_ble_eq_true rfl) (fun g hg hR => ?_)
  show J E 3 g [ob h 4 [.ref mt, .int (nI tn), .ref mo, .int (nI on), .ref mk, .ref mn, .ref mr, .int (nI rc), .ref mh, .ref mw, .ref mi, .ref mv, .ref mb, .ref ms, .ref mu, .ref mp, .ref mc, .ref mx, .ref mg, .ref ma, .int (nI tx)]] [(0, .ref h)] 0 0 0 []
  refine j_aload_n hg 0 dM_key_0 rfl rfl ?_
  refine j_get hg (C := RX4) (T := TX4) (N := 21) inX4 0 rfl rfl 1 (by decide) m329 rfl dM_key_1 ?_
  refine j_istore_n hg (lv' := [(1, .int (nI tn)), (0, .ref h)]) dM_key_4 rfl (by decide) rfl ?_
  refine j_aload_n hg 1 dM_key_5 rfl rfl ?_
  refine j_iconst hg (v := 0) dM_key_6 (by decide) ?_
  refine j_put hg (C := RX4) (T := TX4) (N := 21) (ty := .int) (ws' := [ob h 4 [.ref mt, .int 0, .ref mo, .int (nI on), .ref mk, .ref mn, .ref mr, .int (nI rc), .ref mh, .ref mw, .ref mi, .ref mv, .ref mb, .ref ms, .ref mu, .ref mp, .ref mc, .ref mx, .ref mg, .ref ma, .int (nI tx)]]) inX4 tyX4 tyX4_ok nmX4 0 rfl rfl 1 (by decide) m329 rfl (by decide +kernel) rfl rfl (Nat.le_of_ble_eq_true rfl) rfl dM_key_7 ?_
  refine j_iload_n hg 0 dM_key_10 rfl rfl ?_
  refine j_bipush hg (v := 32) dM_key_11 (by decide) ?_
  refine j_neq_f hg (tgt := 18) tn 32 rfl rfl (by omega) (by omega) (by omega) dM_key_13 (by decide) ?_
  refine j_iconst hg (v := -1) dM_key_16 (by decide) ?_
  exact j_iret hg hR rfl () trivial rfl [0] rfl (by decide) (by decide) (by decide) dM_key_17

set_option maxHeartbeats 1000000 in
set_option maxRecDepth 100000 in
theorem c_M_key_y (l : Launch) (E : Ev) (h mt mo mk mn mr mh mw mi mv mb ms mu mp mc mx mg ma : Nat) (tn on rc tx : Nat) (ta fk : Nat → Int32) (h1 : tn = 32) (hb : Byt ta) : MC E l yM_key (cT yM_key cM_key 3 (some .int)) rm_M_key [.ref h] [ob h 4 [.ref mt, .int (nI tn), .ref mo, .int (nI on), .ref mk, .ref mn, .ref mr, .int (nI rc), .ref mh, .ref mw, .ref mi, .ref mv, .ref mb, .ref ms, .ref mu, .ref mp, .ref mc, .ref mx, .ref mg, .ref ma, .int (nI tx)], aB E mt 800 ta, aB E mk 32 fk] Unit (fun _ => True) (fun _ => some (.int 0)) (fun _ => [ob h 4 [.ref mt, .int 0, .ref mo, .int (nI on), .ref mk, .ref mn, .ref mr, .int (nI rc), .ref mh, .ref mw, .ref mi, .ref mv, .ref mb, .ref ms, .ref mu, .ref mp, .ref mc, .ref mx, .ref mg, .ref ma, .int (nI tx)], aB E mt 800 ta, aB E mk 32 (cp0 fk ta 32)]) := by
  refine MC.of (cc := cM_key) (nL := 3) (ret := (some .int)) (by decide) rfl cT_in (Nat.le_of_ble_eq_true rfl) (fun g hg hR => ?_)
  show J E 3 g [ob h 4 [.ref mt, .int (nI tn), .ref mo, .int (nI on), .ref mk, .ref mn, .ref mr, .int (nI rc), .ref mh, .ref mw, .ref mi, .ref mv, .ref mb, .ref ms, .ref mu, .ref mp, .ref mc, .ref mx, .ref mg, .ref ma, .int (nI tx)], aB E mt 800 ta, aB E mk 32 fk] [(0, .ref h)] 0 0 0 []
  refine j_aload_n hg 0 dM_key_0 rfl rfl ?_
  refine j_get hg (C := RX4) (T := TX4) (N := 21) inX4 0 rfl rfl 1 (by decide) m329 rfl dM_key_1 ?_
  refine j_istore_n hg (lv' := [(1, .int (nI tn)), (0, .ref h)]) dM_key_4 rfl (by decide) rfl ?_
  refine j_aload_n hg 1 dM_key_5 rfl rfl ?_
  refine j_iconst hg (v := 0) dM_key_6 (by decide) ?_
  refine j_put hg (C := RX4) (T := TX4) (N := 21) (ty := .int) (ws' := [ob h 4 [.ref mt, .int 0, .ref mo, .int (nI on), .ref mk, .ref mn, .ref mr, .int (nI rc), .ref mh, .ref mw, .ref mi, .ref mv, .ref mb, .ref ms, .ref mu, .ref mp, .ref mc, .ref mx, .ref mg, .ref ma, .int (nI tx)], aB E mt 800 ta, aB E mk 32 fk]) inX4 tyX4 tyX4_ok nmX4 0 rfl rfl 1 (by decide) m329 rfl (by decide +kernel) rfl rfl (Nat.le_of_ble_eq_true rfl) rfl dM_key_7 ?_
  refine j_iload_n hg 0 dM_key_10 rfl rfl ?_
  refine j_bipush hg (v := 32) dM_key_11 (by decide) ?_
  refine j_neq_t hg (tgt := 18) tn 32 rfl rfl (by omega) (by omega) (by omega) dM_key_13 (by decide) ?_
  refine j_iconst hg (v := 0) dM_key_18 (by decide) ?_
  refine j_istore_n hg (lv' := [(2, .int 0), (1, .int (nI tn)), (0, .ref h)]) dM_key_19 rfl (by decide) rfl ?_
  refine j_pick [2, 0] (lv' := [(0, .ref h), (2, .int 0)]) rfl ?_
  have loop : ∀ (zk i : Nat), i + zk = 32 → J E 3 g [ob h 4 [.ref mt, .int 0, .ref mo, .int (nI on), .ref mk, .ref mn, .ref mr, .int (nI rc), .ref mh, .ref mw, .ref mi, .ref mv, .ref mb, .ref ms, .ref mu, .ref mp, .ref mc, .ref mx, .ref mg, .ref ma, .int (nI tx)], aB E mt 800 ta, aB E mk 32 (cp0 fk ta i)] [(0, .ref h), (2, .int (nI i))] 0 0 20 [] := by
    intro zk
    induction zk with
    | zero =>
      intro i  hi
      obtain rfl : 32 = i := by omega
      refine j_iload_n hg 1 dM_key_20 rfl rfl ?_
      refine j_bipush hg (v := 32) dM_key_21 (by decide) ?_
      refine j_nge_t hg (tgt := 44) 32 32 rfl rfl (by omega) (by omega) (by omega) dM_key_23 (by decide) ?_
      refine j_iconst hg (v := 0) dM_key_44 (by decide) ?_
      exact j_iret hg hR rfl () trivial rfl [0, 1, 2] rfl (by decide) (by decide) (by decide) dM_key_45
    | succ zk ih =>
      intro i  hi
      refine j_iload_n hg 1 dM_key_20 rfl rfl ?_
      refine j_bipush hg (v := 32) dM_key_21 (by decide) ?_
      refine j_nge_f hg (tgt := 44) i 32 rfl rfl (by omega) (by omega) (by omega) dM_key_23 (by decide) ?_
      refine j_aload_n hg 0 dM_key_26 rfl rfl ?_
      refine j_get hg (C := RX4) (T := TX4) (N := 21) inX4 0 rfl rfl 4 (by decide) m332 rfl dM_key_27 ?_
      refine j_iload_n hg 1 dM_key_30 rfl rfl ?_
      refine j_aload_n hg 0 dM_key_31 rfl rfl ?_
      refine j_get hg (C := RX4) (T := TX4) (N := 21) inX4 0 rfl rfl 0 (by decide) m328 rfl dM_key_32 ?_
      refine j_iload_n hg 1 dM_key_35 rfl rfl ?_
      refine j_bald hg (v := ta i) 1 i rfl rfl (by omega) (by omega) rfl dM_key_36 ?_
      refine j_bast hg (ws' := [ob h 4 [.ref mt, .int 0, .ref mo, .int (nI on), .ref mk, .ref mn, .ref mr, .int (nI rc), .ref mh, .ref mw, .ref mi, .ref mv, .ref mb, .ref ms, .ref mu, .ref mp, .ref mc, .ref mx, .ref mg, .ref ma, .int (nI tx)], aB E mt 800 ta, aB E mk 32 (upd (cp0 fk ta i) i (ta i))]) 2 i rfl rfl (by omega) (by omega) (hb.nar _) rfl dM_key_37 ?_
      refine j_iinc hg (kq := 1) (v := nI (i + 1)) (lv' := [(2, .int (nI (i + 1))), (0, .ref h)]) dM_key_38 rfl (nI_add i 1) (by decide) rfl ?_
      refine j_goto hg (tgt := 20) dM_key_41 (by decide) ?_
      refine j_pick [1, 0] (lv' := [(0, .ref h), (2, .int (nI (i + 1)))]) rfl ?_
      exact ih (i + 1) (by omega)
  exact loop (32) 0 (by omega)

def rm_M_nonce : Room := { frames := 0, cells := 0, slots := 0, locals := 0 }
set_option maxHeartbeats 1000000 in
set_option maxRecDepth 100000 in
theorem c_M_nonce (l : Launch) (E : Ev) (h mt mo mk mn mr mh mw mi mv mb ms mu mp mc mx mg ma : Nat) (tn on rc tx : Nat) (fn : Nat → Int32) (a : Int32) (b : Int64) : MC E l yM_nonce (cT yM_nonce cM_nonce 5 none) rm_M_nonce [.ref h, .int a, .long b] [ob h 4 [.ref mt, .int (nI tn), .ref mo, .int (nI on), .ref mk, .ref mn, .ref mr, .int (nI rc), .ref mh, .ref mw, .ref mi, .ref mv, .ref mb, .ref ms, .ref mu, .ref mp, .ref mc, .ref mx, .ref mg, .ref ma, .int (nI tx)], aB E mn 12 fn] Unit (fun _ => True) (fun _ => none) (fun _ => [ob h 4 [.ref mt, .int (nI tn), .ref mo, .int (nI on), .ref mk, .ref mn, .ref mr, .int (nI rc), .ref mh, .ref mw, .ref mi, .ref mv, .ref mb, .ref ms, .ref mu, .ref mp, .ref mc, .ref mx, .ref mg, .ref ma, .int (nI tx)], aB E mn 12 (no2 (no1 fn a 4) b 8)]) := by
  refine MC.of (cc := cM_nonce) (nL := 5) (ret := none) (by decide) rfl cT_in (Nat.le_of_ble_eq_true rfl) (fun g hg hR => ?_)
  show J E 5 g [ob h 4 [.ref mt, .int (nI tn), .ref mo, .int (nI on), .ref mk, .ref mn, .ref mr, .int (nI rc), .ref mh, .ref mw, .ref mi, .ref mv, .ref mb, .ref ms, .ref mu, .ref mp, .ref mc, .ref mx, .ref mg, .ref ma, .int (nI tx)], aB E mn 12 fn] [(0, .ref h), (1, .int a), (2, .long b)] 0 0 0 []
  refine j_iconst hg (v := 0) dM_nonce_0 (by decide) ?_
  refine j_istore hg (lv' := [(4, .int 0), (0, .ref h), (1, .int a), (2, .long b)]) dM_nonce_1 (by decide) rfl ?_
  refine j_pick [1, 2, 3, 0] (lv' := [(0, .ref h), (1, .int a), (2, .long b), (4, .int 0)]) rfl ?_
  have loop : ∀ (zk i : Nat), i + zk = 4 → J E 5 g [ob h 4 [.ref mt, .int (nI tn), .ref mo, .int (nI on), .ref mk, .ref mn, .ref mr, .int (nI rc), .ref mh, .ref mw, .ref mi, .ref mv, .ref mb, .ref ms, .ref mu, .ref mp, .ref mc, .ref mx, .ref mg, .ref ma, .int (nI tx)], aB E mn 12 (no1 fn a i)] [(0, .ref h), (1, .int a), (2, .long b), (4, .int (nI i))] 0 0 3 [] := by
    intro zk
    induction zk with
    | zero =>
      intro i  hi
      obtain rfl : 4 = i := by omega
      refine j_iload hg 3 dM_nonce_3 rfl ?_
      refine j_iconst hg (v := 4) dM_nonce_5 (by decide) ?_
      refine j_nge_t hg (tgt := 33) 4 4 rfl rfl (by omega) (by omega) (by omega) dM_nonce_6 (by decide) ?_
      refine j_iconst hg (v := 0) dM_nonce_33 (by decide) ?_
      refine j_istore hg (lv' := [(4, .int 0), (0, .ref h), (1, .int a), (2, .long b)]) dM_nonce_34 (by decide) rfl ?_
      refine j_pick [1, 2, 3, 0] (lv' := [(0, .ref h), (1, .int a), (2, .long b), (4, .int 0)]) rfl ?_
      have loop2 : ∀ (zk i : Nat), i + zk = 8 → J E 5 g [ob h 4 [.ref mt, .int (nI tn), .ref mo, .int (nI on), .ref mk, .ref mn, .ref mr, .int (nI rc), .ref mh, .ref mw, .ref mi, .ref mv, .ref mb, .ref ms, .ref mu, .ref mp, .ref mc, .ref mx, .ref mg, .ref ma, .int (nI tx)], aB E mn 12 (no2 (no1 fn a 4) b i)] [(0, .ref h), (1, .int a), (2, .long b), (4, .int (nI i))] 0 0 36 [] := by
        intro zk
        induction zk with
        | zero =>
          intro i  hi
          obtain rfl : 8 = i := by omega
          refine j_iload hg 3 dM_nonce_36 rfl ?_
          refine j_bipush hg (v := 8) dM_nonce_38 (by decide) ?_
          refine j_nge_t hg (tgt := 70) 8 8 rfl rfl (by omega) (by omega) (by omega) dM_nonce_40 (by decide) ?_
          exact j_vret hg hR () trivial rfl [0, 1] rfl (by decide) (by decide) (by decide) dM_nonce_70
        | succ zk ih =>
          intro i  hi
          refine j_iload hg 3 dM_nonce_36 rfl ?_
          refine j_bipush hg (v := 8) dM_nonce_38 (by decide) ?_
          refine j_nge_f hg (tgt := 70) i 8 rfl rfl (by omega) (by omega) (by omega) dM_nonce_40 (by decide) ?_
          refine j_aload_n hg 0 dM_nonce_43 rfl rfl ?_
          refine j_get hg (C := RX4) (T := TX4) (N := 21) inX4 0 rfl rfl 5 (by decide) m333 rfl dM_nonce_44 ?_
          refine j_iconst hg (v := 4) dM_nonce_47 (by decide) ?_
          refine j_iload hg 3 dM_nonce_48 rfl ?_
          refine j_iadd hg (v := nI (4 + i)) dM_nonce_50 (nI_add 4 i) ?_
          refine j_lload_n hg 2 dM_nonce_51 rfl rfl ?_
          refine j_bipush hg (v := 56) dM_nonce_52 (by decide) ?_
          refine j_bipush hg (v := 8) dM_nonce_54 (by decide) ?_
          refine j_iload hg 3 dM_nonce_56 rfl ?_
          refine j_imul hg (v := nI (8 * i)) dM_nonce_58 (pk_mul 8 i) ?_
          refine j_isub hg (v := nI (56 - (8 * i))) dM_nonce_59 (pk_sub (a := 56) (b := 8 * i) (by omega)) ?_
          refine j_lshr hg (v := lshr b (nI (56 - (8 * i)))) dM_nonce_60 rfl ?_
          refine j_l2i hg (v := (lshr b (nI (56 - (8 * i)))).toInt32) dM_nonce_61 rfl ?_
          refine j_i2b hg (v := sB ((lshr b (nI (56 - (8 * i)))).toInt32)) dM_nonce_62 rfl ?_
          refine j_bast hg (ws' := [ob h 4 [.ref mt, .int (nI tn), .ref mo, .int (nI on), .ref mk, .ref mn, .ref mr, .int (nI rc), .ref mh, .ref mw, .ref mi, .ref mv, .ref mb, .ref ms, .ref mu, .ref mp, .ref mc, .ref mx, .ref mg, .ref ma, .int (nI tx)], aB E mn 12 (upd (no2 (no1 fn a 4) b i) (4 + i) (sB ((lshr b (nI (56 - (8 * i)))).toInt32)))]) 1 (4 + i) rfl rfl (by omega) (by omega) (sB_nar _) rfl dM_nonce_63 ?_
          refine j_iinc hg (kq := 3) (v := nI (i + 1)) (lv' := [(4, .int (nI (i + 1))), (0, .ref h), (1, .int a), (2, .long b)]) dM_nonce_64 rfl (nI_add i 1) (by decide) rfl ?_
          refine j_goto hg (tgt := 36) dM_nonce_67 (by decide) ?_
          refine j_pick [1, 2, 3, 0] (lv' := [(0, .ref h), (1, .int a), (2, .long b), (4, .int (nI (i + 1)))]) rfl ?_
          exact ih (i + 1) (by omega)
      exact loop2 (8) 0 (by omega)
    | succ zk ih =>
      intro i  hi
      refine j_iload hg 3 dM_nonce_3 rfl ?_
      refine j_iconst hg (v := 4) dM_nonce_5 (by decide) ?_
      refine j_nge_f hg (tgt := 33) i 4 rfl rfl (by omega) (by omega) (by omega) dM_nonce_6 (by decide) ?_
      refine j_aload_n hg 0 dM_nonce_9 rfl rfl ?_
      refine j_get hg (C := RX4) (T := TX4) (N := 21) inX4 0 rfl rfl 5 (by decide) m333 rfl dM_nonce_10 ?_
      refine j_iload hg 3 dM_nonce_13 rfl ?_
      refine j_iload_n hg 1 dM_nonce_15 rfl rfl ?_
      refine j_bipush hg (v := 24) dM_nonce_16 (by decide) ?_
      refine j_bipush hg (v := 8) dM_nonce_18 (by decide) ?_
      refine j_iload hg 3 dM_nonce_20 rfl ?_
      refine j_imul hg (v := nI (8 * i)) dM_nonce_22 (pk_mul 8 i) ?_
      refine j_isub hg (v := nI (24 - (8 * i))) dM_nonce_23 (pk_sub (a := 24) (b := 8 * i) (by omega)) ?_
      refine j_ishr hg (v := shr a (nI (24 - (8 * i)))) dM_nonce_24 rfl ?_
      refine j_i2b hg (v := sB (shr a (nI (24 - (8 * i))))) dM_nonce_25 rfl ?_
      refine j_bast hg (ws' := [ob h 4 [.ref mt, .int (nI tn), .ref mo, .int (nI on), .ref mk, .ref mn, .ref mr, .int (nI rc), .ref mh, .ref mw, .ref mi, .ref mv, .ref mb, .ref ms, .ref mu, .ref mp, .ref mc, .ref mx, .ref mg, .ref ma, .int (nI tx)], aB E mn 12 (upd (no1 fn a i) i (sB (shr a (nI (24 - (8 * i))))))]) 1 i rfl rfl (by omega) (by omega) (sB_nar _) rfl dM_nonce_26 ?_
      refine j_iinc hg (kq := 3) (v := nI (i + 1)) (lv' := [(4, .int (nI (i + 1))), (0, .ref h), (1, .int a), (2, .long b)]) dM_nonce_27 rfl (nI_add i 1) (by decide) rfl ?_
      refine j_goto hg (tgt := 3) dM_nonce_30 (by decide) ?_
      refine j_pick [1, 2, 3, 0] (lv' := [(0, .ref h), (1, .int a), (2, .long b), (4, .int (nI (i + 1)))]) rfl ?_
      exact ih (i + 1) (by omega)
  exact loop (4) 0 (by omega)

def rm_M_stream : Room := { frames := 3, cells := 0, slots := 0, locals := 69 }
set_option maxHeartbeats 1000000 in
set_option maxRecDepth 100000 in
theorem c_M_stream (l : Launch) (E : Ev) (h mt mo mk mn mr mh mw mi mv mb ms mu mp mc mx mg ma : Nat) (tn on rc tx : Nat) (fk fn v b s o : Nat → Int32) (c : Int32) (hs : Byt s) : MC E l yM_stream (cT yM_stream cM_stream 3 (some .int)) rm_M_stream [.ref h, .int c] [ob h 4 [.ref mt, .int (nI tn), .ref mo, .int (nI on), .ref mk, .ref mn, .ref mr, .int (nI rc), .ref mh, .ref mw, .ref mi, .ref mv, .ref mb, .ref ms, .ref mu, .ref mp, .ref mc, .ref mx, .ref mg, .ref ma, .int (nI tx)], aB E mk 32 fk, aB E mn 12 fn, aI E mv 16 v, aI E mb 16 b, aB E ms 64 s, aB E mo 816 o] Unit (fun _ => True) (fun _ => some (.int 64)) (fun _ => [ob h 4 [.ref mt, .int (nI tn), .ref mo, .int 64, .ref mk, .ref mn, .ref mr, .int (nI rc), .ref mh, .ref mw, .ref mi, .ref mv, .ref mb, .ref ms, .ref mu, .ref mp, .ref mc, .ref mx, .ref mg, .ref ma, .int (nI tx)], aB E mk 32 fk, aB E mn 12 fn, aI E mv 16 (mvF b v fk fn c), aI E mb 16 (layF b fk fn c), aB E ms 64 (msF s b v fk fn c), aB E mo 816 (cp0 o (msF s b v fk fn c) 64)]) := by
  refine MC.of (cc := cM_stream) (nL := 3) (ret := (some .int)) (by decide) rfl cT_in (Nat.le_of_ble_eq_true rfl) (fun g hg hR => ?_)
  show J E 3 g [ob h 4 [.ref mt, .int (nI tn), .ref mo, .int (nI on), .ref mk, .ref mn, .ref mr, .int (nI rc), .ref mh, .ref mw, .ref mi, .ref mv, .ref mb, .ref ms, .ref mu, .ref mp, .ref mc, .ref mx, .ref mg, .ref ma, .int (nI tx)], aB E mk 32 fk, aB E mn 12 fn, aI E mv 16 v, aI E mb 16 b, aB E ms 64 s, aB E mo 816 o] [(0, .ref h), (1, .int c)] 0 0 0 []
  refine j_aload_n hg 0 dM_stream_0 rfl rfl ?_
  refine j_iload_n hg 1 dM_stream_1 rfl rfl ?_
  refine j_callV hg (n := 1) (y := yM_block) (rm := rm_M_block) (Ws := (cT yM_block cM_block 5 none)) (As := [.int c]) (rest := []) (wr := [aB E mo 816 o]) 0 rfl rfl (c_M_block l E h mt mo mk mn mr mh mw mi mv mb ms mu mp mc mx mg ma tn on rc tx fk fn v b s c) (gdV m420 m422 ms19 m5 m423) rfl (by decide +kernel) ⟨by decide, by decide⟩ rfl rfl (Nat.le_of_ble_eq_true rfl) ⟨by decide, by decide⟩ [0, 1, 2, 3, 4, 5] [6] rfl rfl (by decide) (by decide) (by decide) dM_stream_2 (fun _ _ => ?_)
  show J E 3 g [aB E mo 816 o, ob h 4 [.ref mt, .int (nI tn), .ref mo, .int (nI on), .ref mk, .ref mn, .ref mr, .int (nI rc), .ref mh, .ref mw, .ref mi, .ref mv, .ref mb, .ref ms, .ref mu, .ref mp, .ref mc, .ref mx, .ref mg, .ref ma, .int (nI tx)], aB E mk 32 fk, aB E mn 12 fn, aI E mv 16 (mvF b v fk fn c), aI E mb 16 (layF b fk fn c), aB E ms 64 (msF s b v fk fn c)] [(0, .ref h), (1, .int c)] 0 0 5 []
  refine j_iconst hg (v := 0) dM_stream_5 (by decide) ?_
  refine j_istore_n hg (lv' := [(2, .int 0), (0, .ref h), (1, .int c)]) dM_stream_6 rfl (by decide) rfl ?_
  refine j_sub [1, 2, 3, 4, 5, 6, 0] (ws' := [ob h 4 [.ref mt, .int (nI tn), .ref mo, .int (nI on), .ref mk, .ref mn, .ref mr, .int (nI rc), .ref mh, .ref mw, .ref mi, .ref mv, .ref mb, .ref ms, .ref mu, .ref mp, .ref mc, .ref mx, .ref mg, .ref ma, .int (nI tx)], aB E mk 32 fk, aB E mn 12 fn, aI E mv 16 (mvF b v fk fn c), aI E mb 16 (layF b fk fn c), aB E ms 64 (msF s b v fk fn c), aB E mo 816 o]) rfl (by decide) ?_
  refine j_pick [1, 0] (lv' := [(0, .ref h), (2, .int 0)]) rfl ?_
  have loop : ∀ (zk i : Nat), i + zk = 64 → J E 3 g [ob h 4 [.ref mt, .int (nI tn), .ref mo, .int (nI on), .ref mk, .ref mn, .ref mr, .int (nI rc), .ref mh, .ref mw, .ref mi, .ref mv, .ref mb, .ref ms, .ref mu, .ref mp, .ref mc, .ref mx, .ref mg, .ref ma, .int (nI tx)], aB E mk 32 fk, aB E mn 12 fn, aI E mv 16 (mvF b v fk fn c), aI E mb 16 (layF b fk fn c), aB E ms 64 (msF s b v fk fn c), aB E mo 816 (cp0 o (msF s b v fk fn c) i)] [(0, .ref h), (2, .int (nI i))] 0 0 7 [] := by
    intro zk
    induction zk with
    | zero =>
      intro i  hi
      obtain rfl : 64 = i := by omega
      refine j_iload_n hg 1 dM_stream_7 rfl rfl ?_
      refine j_bipush hg (v := 64) dM_stream_8 (by decide) ?_
      refine j_nge_t hg (tgt := 31) 64 64 rfl rfl (by omega) (by omega) (by omega) dM_stream_10 (by decide) ?_
      refine j_aload_n hg 0 dM_stream_31 rfl rfl ?_
      refine j_bipush hg (v := 64) dM_stream_32 (by decide) ?_
      refine j_put hg (C := RX4) (T := TX4) (N := 21) (ty := .int) (ws' := [ob h 4 [.ref mt, .int (nI tn), .ref mo, .int 64, .ref mk, .ref mn, .ref mr, .int (nI rc), .ref mh, .ref mw, .ref mi, .ref mv, .ref mb, .ref ms, .ref mu, .ref mp, .ref mc, .ref mx, .ref mg, .ref ma, .int (nI tx)], aB E mk 32 fk, aB E mn 12 fn, aI E mv 16 (mvF b v fk fn c), aI E mb 16 (layF b fk fn c), aB E ms 64 (msF s b v fk fn c), aB E mo 816 (cp0 o (msF s b v fk fn c) 64)]) inX4 tyX4 tyX4_ok nmX4 0 rfl rfl 3 (by decide) m331 rfl (by decide +kernel) rfl rfl (Nat.le_of_ble_eq_true rfl) rfl dM_stream_34 ?_
      refine j_aload_n hg 0 dM_stream_37 rfl rfl ?_
      refine j_get hg (C := RX4) (T := TX4) (N := 21) inX4 0 rfl rfl 3 (by decide) m331 rfl dM_stream_38 ?_
      exact j_iret hg hR rfl () trivial rfl [0, 1, 2, 3, 4, 5, 6] rfl (by decide) (by decide) (by decide) dM_stream_41
    | succ zk ih =>
      intro i  hi
      refine j_iload_n hg 1 dM_stream_7 rfl rfl ?_
      refine j_bipush hg (v := 64) dM_stream_8 (by decide) ?_
      refine j_nge_f hg (tgt := 31) i 64 rfl rfl (by omega) (by omega) (by omega) dM_stream_10 (by decide) ?_
      refine j_aload_n hg 0 dM_stream_13 rfl rfl ?_
      refine j_get hg (C := RX4) (T := TX4) (N := 21) inX4 0 rfl rfl 2 (by decide) m330 rfl dM_stream_14 ?_
      refine j_iload_n hg 1 dM_stream_17 rfl rfl ?_
      refine j_aload_n hg 0 dM_stream_18 rfl rfl ?_
      refine j_get hg (C := RX4) (T := TX4) (N := 21) inX4 0 rfl rfl 13 (by decide) m341 rfl dM_stream_19 ?_
      refine j_iload_n hg 1 dM_stream_22 rfl rfl ?_
      refine j_bald hg (v := (msF s b v fk fn c) i) 5 i rfl rfl (by omega) (by omega) rfl dM_stream_23 ?_
      refine j_bast hg (ws' := [ob h 4 [.ref mt, .int (nI tn), .ref mo, .int (nI on), .ref mk, .ref mn, .ref mr, .int (nI rc), .ref mh, .ref mw, .ref mi, .ref mv, .ref mb, .ref ms, .ref mu, .ref mp, .ref mc, .ref mx, .ref mg, .ref ma, .int (nI tx)], aB E mk 32 fk, aB E mn 12 fn, aI E mv 16 (mvF b v fk fn c), aI E mb 16 (layF b fk fn c), aB E ms 64 (msF s b v fk fn c), aB E mo 816 (upd (cp0 o (msF s b v fk fn c) i) i ((msF s b v fk fn c) i))]) 6 i rfl rfl (by omega) (by omega) (hs.msF.nar _) rfl dM_stream_24 ?_
      refine j_iinc hg (kq := 1) (v := nI (i + 1)) (lv' := [(2, .int (nI (i + 1))), (0, .ref h)]) dM_stream_25 rfl (nI_add i 1) (by decide) rfl ?_
      refine j_goto hg (tgt := 7) dM_stream_28 (by decide) ?_
      refine j_pick [1, 0] (lv' := [(0, .ref h), (2, .int (nI (i + 1)))]) rfl ?_
      exact ih (i + 1) (by omega)
  exact loop (64) 0 (by omega)

def rm_M_tag : Room := { frames := 0, cells := 0, slots := 0, locals := 0 }
set_option maxHeartbeats 1000000 in
set_option maxRecDepth 100000 in
theorem c_M_tag (l : Launch) (E : Ev) (h mt mo mk mn mr mh mw mi mv mb ms mu mp mc mx mg ma : Nat) (tn on rc tx : Nat) (tg o : Nat → Int32) (hb : Byt tg) (h1 : on ≤ 800) : MC E l yM_tag (cT yM_tag cM_tag 2 (some .int)) rm_M_tag [.ref h] [ob h 4 [.ref mt, .int (nI tn), .ref mo, .int (nI on), .ref mk, .ref mn, .ref mr, .int (nI rc), .ref mh, .ref mw, .ref mi, .ref mv, .ref mb, .ref ms, .ref mu, .ref mp, .ref mc, .ref mx, .ref mg, .ref ma, .int (nI tx)], aB E mg 16 tg, aB E mo 816 o] Unit (fun _ => True) (fun _ => some (.int (nI (on + 16)))) (fun _ => [ob h 4 [.ref mt, .int (nI tn), .ref mo, .int (nI (on + 16)), .ref mk, .ref mn, .ref mr, .int (nI rc), .ref mh, .ref mw, .ref mi, .ref mv, .ref mb, .ref ms, .ref mu, .ref mp, .ref mc, .ref mx, .ref mg, .ref ma, .int (nI tx)], aB E mg 16 tg, aB E mo 816 (cpT o tg on 16)]) := by
  refine MC.of (cc := cM_tag) (nL := 2) (ret := (some .int)) (by decide) rfl cT_in (Nat.le_of_ble_eq_true rfl) (fun g hg hR => ?_)
  show J E 2 g [ob h 4 [.ref mt, .int (nI tn), .ref mo, .int (nI on), .ref mk, .ref mn, .ref mr, .int (nI rc), .ref mh, .ref mw, .ref mi, .ref mv, .ref mb, .ref ms, .ref mu, .ref mp, .ref mc, .ref mx, .ref mg, .ref ma, .int (nI tx)], aB E mg 16 tg, aB E mo 816 o] [(0, .ref h)] 0 0 0 []
  refine j_iconst hg (v := 0) dM_tag_0 (by decide) ?_
  refine j_istore_n hg (lv' := [(1, .int 0), (0, .ref h)]) dM_tag_1 rfl (by decide) rfl ?_
  refine j_pick [1, 0] (lv' := [(0, .ref h), (1, .int 0)]) rfl ?_
  have loop : ∀ (zk i : Nat), i + zk = 16 → J E 2 g [ob h 4 [.ref mt, .int (nI tn), .ref mo, .int (nI on), .ref mk, .ref mn, .ref mr, .int (nI rc), .ref mh, .ref mw, .ref mi, .ref mv, .ref mb, .ref ms, .ref mu, .ref mp, .ref mc, .ref mx, .ref mg, .ref ma, .int (nI tx)], aB E mg 16 tg, aB E mo 816 (cpT o tg on i)] [(0, .ref h), (1, .int (nI i))] 0 0 2 [] := by
    intro zk
    induction zk with
    | zero =>
      intro i  hi
      obtain rfl : 16 = i := by omega
      refine j_iload_n hg 1 dM_tag_2 rfl rfl ?_
      refine j_bipush hg (v := 16) dM_tag_3 (by decide) ?_
      refine j_nge_t hg (tgt := 31) 16 16 rfl rfl (by omega) (by omega) (by omega) dM_tag_5 (by decide) ?_
      refine j_aload_n hg 0 dM_tag_31 rfl rfl ?_
      refine j_dup hg dM_tag_32 rfl ?_
      refine j_get hg (C := RX4) (T := TX4) (N := 21) inX4 0 rfl rfl 3 (by decide) m331 rfl dM_tag_33 ?_
      refine j_bipush hg (v := 16) dM_tag_36 (by decide) ?_
      refine j_iadd hg (v := nI (on + 16)) dM_tag_38 (nI_add on 16) ?_
      refine j_put hg (C := RX4) (T := TX4) (N := 21) (ty := .int) (ws' := [ob h 4 [.ref mt, .int (nI tn), .ref mo, .int (nI (on + 16)), .ref mk, .ref mn, .ref mr, .int (nI rc), .ref mh, .ref mw, .ref mi, .ref mv, .ref mb, .ref ms, .ref mu, .ref mp, .ref mc, .ref mx, .ref mg, .ref ma, .int (nI tx)], aB E mg 16 tg, aB E mo 816 (cpT o tg on 16)]) inX4 tyX4 tyX4_ok nmX4 0 rfl rfl 3 (by decide) m331 rfl (by decide +kernel) rfl rfl (Nat.le_of_ble_eq_true rfl) rfl dM_tag_39 ?_
      refine j_aload_n hg 0 dM_tag_42 rfl rfl ?_
      refine j_get hg (C := RX4) (T := TX4) (N := 21) inX4 0 rfl rfl 3 (by decide) m331 rfl dM_tag_43 ?_
      exact j_iret hg hR rfl () trivial rfl [0, 1, 2] rfl (by decide) (by decide) (by decide) dM_tag_46
    | succ zk ih =>
      intro i  hi
      refine j_iload_n hg 1 dM_tag_2 rfl rfl ?_
      refine j_bipush hg (v := 16) dM_tag_3 (by decide) ?_
      refine j_nge_f hg (tgt := 31) i 16 rfl rfl (by omega) (by omega) (by omega) dM_tag_5 (by decide) ?_
      refine j_aload_n hg 0 dM_tag_8 rfl rfl ?_
      refine j_get hg (C := RX4) (T := TX4) (N := 21) inX4 0 rfl rfl 2 (by decide) m330 rfl dM_tag_9 ?_
      refine j_aload_n hg 0 dM_tag_12 rfl rfl ?_
      refine j_get hg (C := RX4) (T := TX4) (N := 21) inX4 0 rfl rfl 3 (by decide) m331 rfl dM_tag_13 ?_
      refine j_iload_n hg 1 dM_tag_16 rfl rfl ?_
      refine j_iadd hg (v := nI (on + i)) dM_tag_17 (nI_add on i) ?_
      refine j_aload_n hg 0 dM_tag_18 rfl rfl ?_
      refine j_get hg (C := RX4) (T := TX4) (N := 21) inX4 0 rfl rfl 18 (by decide) m346 rfl dM_tag_19 ?_
      refine j_iload_n hg 1 dM_tag_22 rfl rfl ?_
      refine j_bald hg (v := tg i) 1 i rfl rfl (by omega) (by omega) rfl dM_tag_23 ?_
      refine j_bast hg (ws' := [ob h 4 [.ref mt, .int (nI tn), .ref mo, .int (nI on), .ref mk, .ref mn, .ref mr, .int (nI rc), .ref mh, .ref mw, .ref mi, .ref mv, .ref mb, .ref ms, .ref mu, .ref mp, .ref mc, .ref mx, .ref mg, .ref ma, .int (nI tx)], aB E mg 16 tg, aB E mo 816 (upd (cpT o tg on i) (on + i) (tg i))]) 2 (on + i) rfl rfl (by omega) (by omega) (hb.nar _) rfl dM_tag_24 ?_
      refine j_iinc hg (kq := 1) (v := nI (i + 1)) (lv' := [(1, .int (nI (i + 1))), (0, .ref h)]) dM_tag_25 rfl (nI_add i 1) (by decide) rfl ?_
      refine j_goto hg (tgt := 2) dM_tag_28 (by decide) ?_
      refine j_pick [1, 0] (lv' := [(0, .ref h), (1, .int (nI (i + 1)))]) rfl ?_
      exact ih (i + 1) (by omega)
  exact loop (16) 0 (by omega)

def rm_M_sum : Room := { frames := 3, cells := 0, slots := 0, locals := 69 }
set_option maxHeartbeats 1000000 in
set_option maxRecDepth 100000 in
theorem c_M_sum (l : Launch) (E : Ev) (h mt mo mk mn mr mh mw mi mv mb ms mu mp mc mx mg ma : Nat) (tn on rc tx : Nat) (fk ta o txt : Nat → Int32) (y : S5) (ht : Byt ta) (hg9 : Byt y.2.2.2.2) (h1 : tn ≤ 800) : MC E l yM_sum (cT yM_sum cM_sum 2 (some .int)) rm_M_sum [.ref h] [ob h 4 [.ref mt, .int (nI tn), .ref mo, .int (nI on), .ref mk, .ref mn, .ref mr, .int (nI rc), .ref mh, .ref mw, .ref mi, .ref mv, .ref mb, .ref ms, .ref mu, .ref mp, .ref mc, .ref mx, .ref mg, .ref ma, .int (nI tx)], aB E mt 800 ta, aB E mk 32 fk, aI E mc 16 y.1, aI E mu 17 y.2.1, aI E mp 35 y.2.2.1, aI E ma 19 y.2.2.2.1, aB E mg 16 y.2.2.2.2, aB E mx 864 txt, aB E mo 816 o] Unit (fun _ => True) (fun _ => some (.int (nI (0 + 16)))) (fun _ => [ob h 4 [.ref mt, .int 0, .ref mo, .int (nI (0 + 16)), .ref mk, .ref mn, .ref mr, .int (nI rc), .ref mh, .ref mw, .ref mi, .ref mv, .ref mb, .ref ms, .ref mu, .ref mp, .ref mc, .ref mx, .ref mg, .ref ma, .int (nI tx)], aB E mt 800 ta, aB E mk 32 fk, aI E mc 16 ((smF y fk (cp0 txt ta tn) tn).1), aI E mu 17 ((smF y fk (cp0 txt ta tn) tn).2.1), aI E mp 35 ((smF y fk (cp0 txt ta tn) tn).2.2.1), aI E ma 19 ((smF y fk (cp0 txt ta tn) tn).2.2.2.1), aB E mg 16 ((smF y fk (cp0 txt ta tn) tn).2.2.2.2), aB E mx 864 (cp0 txt ta tn), aB E mo 816 (cpT o (smF y fk (cp0 txt ta tn) tn).2.2.2.2 0 16)]) := by
  refine MC.of (cc := cM_sum) (nL := 2) (ret := (some .int)) (by decide) rfl cT_in (Nat.le_of_ble_eq_true rfl) (fun g hg hR => ?_)
  show J E 2 g [ob h 4 [.ref mt, .int (nI tn), .ref mo, .int (nI on), .ref mk, .ref mn, .ref mr, .int (nI rc), .ref mh, .ref mw, .ref mi, .ref mv, .ref mb, .ref ms, .ref mu, .ref mp, .ref mc, .ref mx, .ref mg, .ref ma, .int (nI tx)], aB E mt 800 ta, aB E mk 32 fk, aI E mc 16 y.1, aI E mu 17 y.2.1, aI E mp 35 y.2.2.1, aI E ma 19 y.2.2.2.1, aB E mg 16 y.2.2.2.2, aB E mx 864 txt, aB E mo 816 o] [(0, .ref h)] 0 0 0 []
  refine j_iconst hg (v := 0) dM_sum_0 (by decide) ?_
  refine j_istore_n hg (lv' := [(1, .int 0), (0, .ref h)]) dM_sum_1 rfl (by decide) rfl ?_
  refine j_pick [1, 0] (lv' := [(0, .ref h), (1, .int 0)]) rfl ?_
  have loop : ∀ (zk i : Nat), i + zk = tn → J E 2 g [ob h 4 [.ref mt, .int (nI tn), .ref mo, .int (nI on), .ref mk, .ref mn, .ref mr, .int (nI rc), .ref mh, .ref mw, .ref mi, .ref mv, .ref mb, .ref ms, .ref mu, .ref mp, .ref mc, .ref mx, .ref mg, .ref ma, .int (nI tx)], aB E mt 800 ta, aB E mk 32 fk, aI E mc 16 y.1, aI E mu 17 y.2.1, aI E mp 35 y.2.2.1, aI E ma 19 y.2.2.2.1, aB E mg 16 y.2.2.2.2, aB E mx 864 (cp0 txt ta i), aB E mo 816 o] [(0, .ref h), (1, .int (nI i))] 0 0 2 [] := by
    intro zk
    induction zk with
    | zero =>
      intro i  hi
      obtain rfl : tn = i := by omega
      refine j_iload_n hg 1 dM_sum_2 rfl rfl ?_
      refine j_aload_n hg 0 dM_sum_3 rfl rfl ?_
      refine j_get hg (C := RX4) (T := TX4) (N := 21) inX4 0 rfl rfl 1 (by decide) m329 rfl dM_sum_4 ?_
      refine j_nge_t hg (tgt := 28) tn tn rfl rfl (by omega) (by omega) (by omega) dM_sum_7 (by decide) ?_
      refine j_aload_n hg 0 dM_sum_28 rfl rfl ?_
      refine j_aload_n hg 0 dM_sum_29 rfl rfl ?_
      refine j_get hg (C := RX4) (T := TX4) (N := 21) inX4 0 rfl rfl 4 (by decide) m332 rfl dM_sum_30 ?_
      refine j_aload_n hg 0 dM_sum_33 rfl rfl ?_
      refine j_get hg (C := RX4) (T := TX4) (N := 21) inX4 0 rfl rfl 1 (by decide) m329 rfl dM_sum_34 ?_
      refine j_callV hg (n := 2) (y := yM_sumOf) (rm := rm_M_sumOf) (Ws := (cT yM_sumOf cM_sumOf 7 none)) (As := [.ref mk, .int (nI tn)]) (rest := []) (wr := [aB E mt 800 ta, aB E mo 816 o]) 0 rfl rfl (c_M_sumOf l E h mt mo mk mn mr mh mw mi mv mb ms mu mp mc mx mg ma tn on rc tx mk 32 fk (cp0 txt ta tn) y tn (by omega) (by omega) (by omega)) (gdV m442 m444 ms21 m5 m445) rfl (by decide +kernel) ⟨by decide, by decide⟩ rfl rfl (Nat.le_of_ble_eq_true rfl) ⟨by decide, by decide⟩ [0, 3, 4, 5, 6, 7, 8, 2] [1, 9] rfl rfl (by decide) (by decide) (by decide) dM_sum_37 (fun _ _ => ?_)
      show J E 2 g [aB E mt 800 ta, aB E mo 816 o, ob h 4 [.ref mt, .int (nI tn), .ref mo, .int (nI on), .ref mk, .ref mn, .ref mr, .int (nI rc), .ref mh, .ref mw, .ref mi, .ref mv, .ref mb, .ref ms, .ref mu, .ref mp, .ref mc, .ref mx, .ref mg, .ref ma, .int (nI tx)], aI E mc 16 ((smF y fk (cp0 txt ta tn) tn).1), aI E mu 17 ((smF y fk (cp0 txt ta tn) tn).2.1), aI E mp 35 ((smF y fk (cp0 txt ta tn) tn).2.2.1), aI E ma 19 ((smF y fk (cp0 txt ta tn) tn).2.2.2.1), aB E mg 16 ((smF y fk (cp0 txt ta tn) tn).2.2.2.2), aB E mx 864 (cp0 txt ta tn), aB E mk 32 fk] [(0, .ref h), (1, .int (nI tn))] 0 0 40 []
      refine j_aload_n hg 0 dM_sum_40 rfl rfl ?_
      refine j_iconst hg (v := 0) dM_sum_41 (by decide) ?_
      refine j_put hg (C := RX4) (T := TX4) (N := 21) (ty := .int) (ws' := [aB E mt 800 ta, aB E mo 816 o, ob h 4 [.ref mt, .int 0, .ref mo, .int (nI on), .ref mk, .ref mn, .ref mr, .int (nI rc), .ref mh, .ref mw, .ref mi, .ref mv, .ref mb, .ref ms, .ref mu, .ref mp, .ref mc, .ref mx, .ref mg, .ref ma, .int (nI tx)], aI E mc 16 ((smF y fk (cp0 txt ta tn) tn).1), aI E mu 17 ((smF y fk (cp0 txt ta tn) tn).2.1), aI E mp 35 ((smF y fk (cp0 txt ta tn) tn).2.2.1), aI E ma 19 ((smF y fk (cp0 txt ta tn) tn).2.2.2.1), aB E mg 16 ((smF y fk (cp0 txt ta tn) tn).2.2.2.2), aB E mx 864 (cp0 txt ta tn), aB E mk 32 fk]) inX4 tyX4 tyX4_ok nmX4 2 rfl rfl 1 (by decide) m329 rfl (by decide +kernel) rfl rfl (Nat.le_of_ble_eq_true rfl) rfl dM_sum_42 ?_
      refine j_aload_n hg 0 dM_sum_45 rfl rfl ?_
      refine j_iconst hg (v := 0) dM_sum_46 (by decide) ?_
      refine j_put hg (C := RX4) (T := TX4) (N := 21) (ty := .int) (ws' := [aB E mt 800 ta, aB E mo 816 o, ob h 4 [.ref mt, .int 0, .ref mo, .int 0, .ref mk, .ref mn, .ref mr, .int (nI rc), .ref mh, .ref mw, .ref mi, .ref mv, .ref mb, .ref ms, .ref mu, .ref mp, .ref mc, .ref mx, .ref mg, .ref ma, .int (nI tx)], aI E mc 16 ((smF y fk (cp0 txt ta tn) tn).1), aI E mu 17 ((smF y fk (cp0 txt ta tn) tn).2.1), aI E mp 35 ((smF y fk (cp0 txt ta tn) tn).2.2.1), aI E ma 19 ((smF y fk (cp0 txt ta tn) tn).2.2.2.1), aB E mg 16 ((smF y fk (cp0 txt ta tn) tn).2.2.2.2), aB E mx 864 (cp0 txt ta tn), aB E mk 32 fk]) inX4 tyX4 tyX4_ok nmX4 2 rfl rfl 3 (by decide) m331 rfl (by decide +kernel) rfl rfl (Nat.le_of_ble_eq_true rfl) rfl dM_sum_47 ?_
      refine j_aload_n hg 0 dM_sum_50 rfl rfl ?_
      refine j_callV hg (n := 0) (y := yM_tag) (rm := rm_M_tag) (Ws := (cT yM_tag cM_tag 2 (some .int))) (As := []) (rest := []) (wr := [aB E mt 800 ta, aI E mc 16 ((smF y fk (cp0 txt ta tn) tn).1), aI E mu 17 ((smF y fk (cp0 txt ta tn) tn).2.1), aI E mp 35 ((smF y fk (cp0 txt ta tn) tn).2.2.1), aI E ma 19 ((smF y fk (cp0 txt ta tn) tn).2.2.2.1), aB E mx 864 (cp0 txt ta tn), aB E mk 32 fk]) 0 rfl rfl (c_M_tag l E h mt mo mk mn mr mh mw mi mv mb ms mu mp mc mx mg ma 0 0 rc tx ((smF y fk (cp0 txt ta tn) tn).2.2.2.2) o (smF_tg hg9) (by omega)) (gdV m454 m456 ms24 m5 m457) rfl (by decide +kernel) ⟨by decide, by decide⟩ rfl rfl (Nat.le_of_ble_eq_true rfl) ⟨by decide, by decide⟩ [2, 7, 1] [0, 3, 4, 5, 6, 8, 9] rfl rfl (by decide) (by decide) (by decide) dM_sum_51 (fun _ _ => ?_)
      show J E 2 g [aB E mt 800 ta, aI E mc 16 ((smF y fk (cp0 txt ta tn) tn).1), aI E mu 17 ((smF y fk (cp0 txt ta tn) tn).2.1), aI E mp 35 ((smF y fk (cp0 txt ta tn) tn).2.2.1), aI E ma 19 ((smF y fk (cp0 txt ta tn) tn).2.2.2.1), aB E mx 864 (cp0 txt ta tn), aB E mk 32 fk, ob h 4 [.ref mt, .int 0, .ref mo, .int (nI (0 + 16)), .ref mk, .ref mn, .ref mr, .int (nI rc), .ref mh, .ref mw, .ref mi, .ref mv, .ref mb, .ref ms, .ref mu, .ref mp, .ref mc, .ref mx, .ref mg, .ref ma, .int (nI tx)], aB E mg 16 ((smF y fk (cp0 txt ta tn) tn).2.2.2.2), aB E mo 816 (cpT o ((smF y fk (cp0 txt ta tn) tn).2.2.2.2) 0 16)] [(0, .ref h), (1, .int (nI tn))] 0 0 54 [.int (nI (0 + 16))]
      exact j_iret hg hR rfl () trivial rfl [7, 0, 6, 1, 2, 3, 4, 8, 5, 9] rfl (by decide) (by decide) (by decide) dM_sum_54
    | succ zk ih =>
      intro i  hi
      refine j_iload_n hg 1 dM_sum_2 rfl rfl ?_
      refine j_aload_n hg 0 dM_sum_3 rfl rfl ?_
      refine j_get hg (C := RX4) (T := TX4) (N := 21) inX4 0 rfl rfl 1 (by decide) m329 rfl dM_sum_4 ?_
      refine j_nge_f hg (tgt := 28) i tn rfl rfl (by omega) (by omega) (by omega) dM_sum_7 (by decide) ?_
      refine j_aload_n hg 0 dM_sum_10 rfl rfl ?_
      refine j_get hg (C := RX4) (T := TX4) (N := 21) inX4 0 rfl rfl 17 (by decide) m345 rfl dM_sum_11 ?_
      refine j_iload_n hg 1 dM_sum_14 rfl rfl ?_
      refine j_aload_n hg 0 dM_sum_15 rfl rfl ?_
      refine j_get hg (C := RX4) (T := TX4) (N := 21) inX4 0 rfl rfl 0 (by decide) m328 rfl dM_sum_16 ?_
      refine j_iload_n hg 1 dM_sum_19 rfl rfl ?_
      refine j_bald hg (v := ta i) 1 i rfl rfl (by omega) (by omega) rfl dM_sum_20 ?_
      refine j_bast hg (ws' := [ob h 4 [.ref mt, .int (nI tn), .ref mo, .int (nI on), .ref mk, .ref mn, .ref mr, .int (nI rc), .ref mh, .ref mw, .ref mi, .ref mv, .ref mb, .ref ms, .ref mu, .ref mp, .ref mc, .ref mx, .ref mg, .ref ma, .int (nI tx)], aB E mt 800 ta, aB E mk 32 fk, aI E mc 16 y.1, aI E mu 17 y.2.1, aI E mp 35 y.2.2.1, aI E ma 19 y.2.2.2.1, aB E mg 16 y.2.2.2.2, aB E mx 864 (upd (cp0 txt ta i) i (ta i)), aB E mo 816 o]) 8 i rfl rfl (by omega) (by omega) (ht.nar _) rfl dM_sum_21 ?_
      refine j_iinc hg (kq := 1) (v := nI (i + 1)) (lv' := [(1, .int (nI (i + 1))), (0, .ref h)]) dM_sum_22 rfl (nI_add i 1) (by decide) rfl ?_
      refine j_goto hg (tgt := 2) dM_sum_25 (by decide) ?_
      refine j_pick [1, 0] (lv' := [(0, .ref h), (1, .int (nI (i + 1)))]) rfl ?_
      exact ih (i + 1) (by omega)
  exact loop (tn) 0 (by omega)

def rm_M_seal : Room := { frames := 4, cells := 0, slots := 0, locals := 94 }
set_option maxHeartbeats 1000000 in
set_option maxRecDepth 100000 in
theorem c_M_seal_n (l : Launch) (E : Ev) (h mt mo mk mn mr mh mw mi mv mb ms mu mp mc mx mg ma : Nat) (tn on rc tx : Nat) (n : Int32) (hn : rn n tn = none) (ht : tn < 2147483648) : MC E l yM_seal (cT yM_seal cM_seal 3 (some .int)) rm_M_seal [.ref h, .int n] [ob h 4 [.ref mt, .int (nI tn), .ref mo, .int (nI on), .ref mk, .ref mn, .ref mr, .int (nI rc), .ref mh, .ref mw, .ref mi, .ref mv, .ref mb, .ref ms, .ref mu, .ref mp, .ref mc, .ref mx, .ref mg, .ref ma, .int (nI tx)]] Unit (fun _ => True) (fun _ => some (.int (-1))) (fun _ => [ob h 4 [.ref mt, .int (nI tn), .ref mo, .int (nI on), .ref mk, .ref mn, .ref mr, .int (nI rc), .ref mh, .ref mw, .ref mi, .ref mv, .ref mb, .ref ms, .ref mu, .ref mp, .ref mc, .ref mx, .ref mg, .ref ma, .int (nI tx)]]) := by
  refine MC.of (cc := cM_seal) (nL := 3) (ret := (some .int)) (by decide) rfl cT_in (Nat.le_of_ble_eq_true rfl) (fun g hg hR => ?_)
  show J E 3 g [ob h 4 [.ref mt, .int (nI tn), .ref mo, .int (nI on), .ref mk, .ref mn, .ref mr, .int (nI rc), .ref mh, .ref mw, .ref mi, .ref mv, .ref mb, .ref ms, .ref mu, .ref mp, .ref mc, .ref mx, .ref mg, .ref ma, .int (nI tx)]] [(0, .ref h), (1, .int n)] 0 0 0 []
  refine j_iload_n hg 1 dM_seal_0 rfl rfl ?_
  refine j_if_lt hg (tgt := 12) dM_seal_1 (by decide) (fun hc => ?_) (fun hc => ?_)
  · skip
    refine j_iconst hg (v := -1) dM_seal_12 (by decide) ?_
    exact j_iret hg hR rfl () trivial rfl [0] rfl (by decide) (by decide) (by decide) dM_seal_13
  · skip
    obtain ⟨j, hj, rfl⟩ := nI_of hc
    refine j_iload_n hg 1 dM_seal_4 rfl rfl ?_
    refine j_aload_n hg 0 dM_seal_5 rfl rfl ?_
    refine j_get hg (C := RX4) (T := TX4) (N := 21) inX4 0 rfl rfl 1 (by decide) m329 rfl dM_seal_6 ?_
    refine j_nle_f hg (tgt := 14) j tn rfl rfl (by omega) (by omega) (rn_lt hj hn) dM_seal_9 (by decide) ?_
    refine j_iconst hg (v := -1) dM_seal_12 (by decide) ?_
    exact j_iret hg hR rfl () trivial rfl [0] rfl (by decide) (by decide) (by decide) dM_seal_13

noncomputable def slX (x : MCS) (fk fn ta : Nat → Int32) (j tn : Nat) : MCS := mcov x fk fn ta j (tn - j)
noncomputable def slY (x : MCS) (y : S5) (fk fn ta txt : Nat → Int32) (j tn : Nat) : S5 := smF y (msF (slX x fk fn ta j tn).2.2.2 (slX x fk fn ta j tn).2.2.1 (slX x fk fn ta j tn).2.1 fk fn 0) (slT txt ta (slX x fk fn ta j tn).1 j 0 (tn - j)) (slN j (tn - j) + 16)
noncomputable def slC (x : MCS) (fk fn ta : Nat → Int32) (j tn : Nat) : MCS := ((slX x fk fn ta j tn).1, mvF (slX x fk fn ta j tn).2.2.1 (slX x fk fn ta j tn).2.1 fk fn 0, layF (slX x fk fn ta j tn).2.2.1 fk fn 0, msF (slX x fk fn ta j tn).2.2.2 (slX x fk fn ta j tn).2.2.1 (slX x fk fn ta j tn).2.1 fk fn 0)
noncomputable def opY (x : MCS) (y : S5) (fk fn ta txt : Nat → Int32) (j tn : Nat) : S5 := smF y (msF x.2.2.2 x.2.2.1 x.2.1 fk fn 0) (slT txt ta ta j j (tn - 16 - j)) (slN j (tn - 16 - j) + 16)
noncomputable def opC (x : MCS) (fk fn : Nat → Int32) : MCS := (x.1, mvF x.2.2.1 x.2.1 fk fn 0, layF x.2.2.1 fk fn 0, msF x.2.2.2 x.2.2.1 x.2.1 fk fn 0)
noncomputable def opD (x : MCS) (fk fn ta : Nat → Int32) (j tn : Nat) : MCS := mcov (opC x fk fn) fk fn ta j (tn - 16 - j)

set_option maxHeartbeats 1000000 in
set_option maxRecDepth 100000 in
theorem c_M_seal_y (l : Launch) (E : Ev) (h mt mo mk mn mr mh mw mi mv mb ms mu mp mc mx mg ma : Nat) (tn on rc tx : Nat) (fk fn ta txt : Nat → Int32) (x : MCS) (y : S5) (j : Nat) (hta : Byt ta) (ho : Byt x.1) (hs : Byt x.2.2.2) (hg9 : Byt y.2.2.2.2) (hj : j ≤ tn) (ht : tn ≤ 800) : MC E l yM_seal (cT yM_seal cM_seal 3 (some .int)) rm_M_seal [.ref h, .int (nI j)] [ob h 4 [.ref mt, .int (nI tn), .ref mo, .int (nI on), .ref mk, .ref mn, .ref mr, .int (nI rc), .ref mh, .ref mw, .ref mi, .ref mv, .ref mb, .ref ms, .ref mu, .ref mp, .ref mc, .ref mx, .ref mg, .ref ma, .int (nI tx)], aB E mt 800 ta, aB E mo 816 x.1, aB E mk 32 fk, aB E mn 12 fn, aI E mv 16 x.2.1, aI E mb 16 x.2.2.1, aB E ms 64 x.2.2.2, aI E mc 16 y.1, aI E mu 17 y.2.1, aI E mp 35 y.2.2.1, aI E ma 19 y.2.2.2.1, aB E mg 16 y.2.2.2.2, aB E mx 864 txt] Unit (fun _ => True) (fun _ => some (.int (nI (tn - j + 16)))) (fun _ => [ob h 4 [.ref mt, .int 0, .ref mo, .int (nI (tn - j + 16)), .ref mk, .ref mn, .ref mr, .int (nI rc), .ref mh, .ref mw, .ref mi, .ref mv, .ref mb, .ref ms, .ref mu, .ref mp, .ref mc, .ref mx, .ref mg, .ref ma, .int (nI (slN j (tn - j)))], aB E mt 800 ta, aB E mo 816 (cpT (slC x fk fn ta j tn).1 (slY x y fk fn ta txt j tn).2.2.2.2 (tn - j) 16), aB E mk 32 fk, aB E mn 12 fn, aI E mv 16 ((slC x fk fn ta j tn).2.1), aI E mb 16 ((slC x fk fn ta j tn).2.2.1), aB E ms 64 ((slC x fk fn ta j tn).2.2.2), aI E mc 16 ((slY x y fk fn ta txt j tn).1), aI E mu 17 ((slY x y fk fn ta txt j tn).2.1), aI E mp 35 ((slY x y fk fn ta txt j tn).2.2.1), aI E ma 19 ((slY x y fk fn ta txt j tn).2.2.2.1), aB E mg 16 ((slY x y fk fn ta txt j tn).2.2.2.2), aB E mx 864 (slT txt ta (slX x fk fn ta j tn).1 j 0 (tn - j))]) := by
  refine MC.of (cc := cM_seal) (nL := 3) (ret := (some .int)) (by decide) rfl cT_in (Nat.le_of_ble_eq_true rfl) (fun g hg hR => ?_)
  show J E 3 g [ob h 4 [.ref mt, .int (nI tn), .ref mo, .int (nI on), .ref mk, .ref mn, .ref mr, .int (nI rc), .ref mh, .ref mw, .ref mi, .ref mv, .ref mb, .ref ms, .ref mu, .ref mp, .ref mc, .ref mx, .ref mg, .ref ma, .int (nI tx)], aB E mt 800 ta, aB E mo 816 x.1, aB E mk 32 fk, aB E mn 12 fn, aI E mv 16 x.2.1, aI E mb 16 x.2.2.1, aB E ms 64 x.2.2.2, aI E mc 16 y.1, aI E mu 17 y.2.1, aI E mp 35 y.2.2.1, aI E ma 19 y.2.2.2.1, aB E mg 16 y.2.2.2.2, aB E mx 864 txt] [(0, .ref h), (1, .int (nI j))] 0 0 0 []
  have hB1 : Byt (slX x fk fn ta j tn).1 := (byt_mcov ho hs _).1
  have hB3 : Byt (slY x y fk fn ta txt j tn).2.2.2.2 := smF_tg hg9
  refine j_iload_n hg 1 dM_seal_0 rfl rfl ?_
  refine j_zlt_f hg (tgt := 12) j rfl (by omega) (by omega) dM_seal_1 (by decide) ?_
  refine j_iload_n hg 1 dM_seal_4 rfl rfl ?_
  refine j_aload_n hg 0 dM_seal_5 rfl rfl ?_
  refine j_get hg (C := RX4) (T := TX4) (N := 21) inX4 0 rfl rfl 1 (by decide) m329 rfl dM_seal_6 ?_
  refine j_nle_t hg (tgt := 14) j tn rfl rfl (by omega) (by omega) (by omega) dM_seal_9 (by decide) ?_
  refine j_aload_n hg 0 dM_seal_14 rfl rfl ?_
  refine j_get hg (C := RX4) (T := TX4) (N := 21) inX4 0 rfl rfl 1 (by decide) m329 rfl dM_seal_15 ?_
  refine j_iload_n hg 1 dM_seal_18 rfl rfl ?_
  refine j_isub hg (v := nI (tn - j)) dM_seal_19 (pk_sub (a := tn) (b := j) (by omega)) ?_
  refine j_istore_n hg (lv' := [(2, .int (nI (tn - j))), (0, .ref h), (1, .int (nI j))]) dM_seal_20 rfl (by decide) rfl ?_
  refine j_aload_n hg 1 dM_seal_21 rfl rfl ?_
  refine j_iload_n hg 2 dM_seal_22 rfl rfl ?_
  refine j_iload_n hg 0 dM_seal_23 rfl rfl ?_
  refine j_aload_n hg 1 dM_seal_24 rfl rfl ?_
  refine j_get hg (C := RX4) (T := TX4) (N := 21) inX4 0 rfl rfl 2 (by decide) m330 rfl dM_seal_25 ?_
  refine j_callV hg (n := 3) (y := yM_cover) (rm := rm_M_cover) (Ws := (cT yM_cover cM_cover 5 none)) (As := [.int (nI j), .int (nI (tn - j)), .ref mo]) (rest := []) (wr := [aI E mc 16 y.1, aI E mu 17 y.2.1, aI E mp 35 y.2.2.1, aI E ma 19 y.2.2.2.1, aB E mg 16 y.2.2.2.2, aB E mx 864 txt]) 0 rfl rfl (c_M_cover l E h mt mo mk mn mr mh mw mi mv mb ms mu mp mc mx mg ma tn on rc tx fk fn ta x j (tn - j) (by omega)) (gdV m462 m464 ms25 m5 m465) rfl (by decide +kernel) ⟨by decide, by decide⟩ rfl rfl (Nat.le_of_ble_eq_true rfl) ⟨by decide, by decide⟩ [0, 1, 3, 4, 5, 6, 7, 2] [8, 9, 10, 11, 12, 13] rfl rfl (by decide) (by decide) (by decide) dM_seal_28 (fun _ _ => ?_)
  show J E 3 g [aI E mc 16 y.1, aI E mu 17 y.2.1, aI E mp 35 y.2.2.1, aI E ma 19 y.2.2.2.1, aB E mg 16 y.2.2.2.2, aB E mx 864 txt, ob h 4 [.ref mt, .int (nI tn), .ref mo, .int (nI on), .ref mk, .ref mn, .ref mr, .int (nI rc), .ref mh, .ref mw, .ref mi, .ref mv, .ref mb, .ref ms, .ref mu, .ref mp, .ref mc, .ref mx, .ref mg, .ref ma, .int (nI tx)], aB E mt 800 ta, aB E mk 32 fk, aB E mn 12 fn, aI E mv 16 ((mcov x fk fn ta j (tn - j)).2.1), aI E mb 16 ((mcov x fk fn ta j (tn - j)).2.2.1), aB E ms 64 ((mcov x fk fn ta j (tn - j)).2.2.2), aB E mo 816 ((mcov x fk fn ta j (tn - j)).1)] [(2, .int (nI (tn - j))), (0, .ref h), (1, .int (nI j))] 0 0 31 []
  refine j_sub [6, 7, 13, 8, 9, 10, 11, 12, 0, 1, 2, 3, 4, 5] (ws' := [ob h 4 [.ref mt, .int (nI tn), .ref mo, .int (nI on), .ref mk, .ref mn, .ref mr, .int (nI rc), .ref mh, .ref mw, .ref mi, .ref mv, .ref mb, .ref ms, .ref mu, .ref mp, .ref mc, .ref mx, .ref mg, .ref ma, .int (nI tx)], aB E mt 800 ta, aB E mo 816 ((mcov x fk fn ta j (tn - j)).1), aB E mk 32 fk, aB E mn 12 fn, aI E mv 16 ((mcov x fk fn ta j (tn - j)).2.1), aI E mb 16 ((mcov x fk fn ta j (tn - j)).2.2.1), aB E ms 64 ((mcov x fk fn ta j (tn - j)).2.2.2), aI E mc 16 y.1, aI E mu 17 y.2.1, aI E mp 35 y.2.2.1, aI E ma 19 y.2.2.2.1, aB E mg 16 y.2.2.2.2, aB E mx 864 txt]) rfl (by decide) ?_
  show J E 3 g [ob h 4 [.ref mt, .int (nI tn), .ref mo, .int (nI on), .ref mk, .ref mn, .ref mr, .int (nI rc), .ref mh, .ref mw, .ref mi, .ref mv, .ref mb, .ref ms, .ref mu, .ref mp, .ref mc, .ref mx, .ref mg, .ref ma, .int (nI tx)], aB E mt 800 ta, aB E mo 816 ((slX x fk fn ta j tn).1), aB E mk 32 fk, aB E mn 12 fn, aI E mv 16 ((slX x fk fn ta j tn).2.1), aI E mb 16 ((slX x fk fn ta j tn).2.2.1), aB E ms 64 ((slX x fk fn ta j tn).2.2.2), aI E mc 16 y.1, aI E mu 17 y.2.1, aI E mp 35 y.2.2.1, aI E ma 19 y.2.2.2.1, aB E mg 16 y.2.2.2.2, aB E mx 864 txt] [(2, .int (nI (tn - j))), (0, .ref h), (1, .int (nI j))] 0 0 31 []
  refine j_aload_n hg 1 dM_seal_31 rfl rfl ?_
  refine j_iload_n hg 2 dM_seal_32 rfl rfl ?_
  refine j_aload_n hg 1 dM_seal_33 rfl rfl ?_
  refine j_get hg (C := RX4) (T := TX4) (N := 21) inX4 0 rfl rfl 2 (by decide) m330 rfl dM_seal_34 ?_
  refine j_iconst hg (v := 0) dM_seal_37 (by decide) ?_
  refine j_iload_n hg 0 dM_seal_38 rfl rfl ?_
  refine j_callV hg (n := 4) (y := yM_seals) (rm := rm_M_seals) (Ws := (cT yM_seals cM_seals 6 none)) (As := [.int (nI j), .ref mo, .int 0, .int (nI (tn - j))]) (rest := []) (wr := []) 0 rfl rfl (c_M_seals_o l E h mt mo mk mn mr mh mw mi mv mb ms mu mp mc mx mg ma tn on rc tx fk fn ((slX x fk fn ta j tn).2.1) ((slX x fk fn ta j tn).2.2.1) ((slX x fk fn ta j tn).2.2.2) ta ((slX x fk fn ta j tn).1) txt y j 0 (tn - j) hta hB1 (by omega) (by omega)) (gdV m466 m468 ms26 m5 m469) rfl (by decide +kernel) ⟨by decide, by decide⟩ rfl rfl (Nat.le_of_ble_eq_true rfl) ⟨by decide, by decide⟩ [0, 1, 2, 3, 4, 5, 6, 7, 8, 9, 10, 11, 12, 13] [] rfl rfl (by decide) (by decide) (by decide) dM_seal_39 (fun _ _ => ?_)
  show J E 3 g [ob h 4 [.ref mt, .int (nI tn), .ref mo, .int (nI on), .ref mk, .ref mn, .ref mr, .int (nI rc), .ref mh, .ref mw, .ref mi, .ref mv, .ref mb, .ref ms, .ref mu, .ref mp, .ref mc, .ref mx, .ref mg, .ref ma, .int (nI (slN j (tn - j)))], aB E mt 800 ta, aB E mo 816 ((slX x fk fn ta j tn).1), aB E mk 32 fk, aB E mn 12 fn, aI E mv 16 (mvF ((slX x fk fn ta j tn).2.2.1) ((slX x fk fn ta j tn).2.1) fk fn 0), aI E mb 16 (layF ((slX x fk fn ta j tn).2.2.1) fk fn 0), aB E ms 64 (msF ((slX x fk fn ta j tn).2.2.2) ((slX x fk fn ta j tn).2.2.1) ((slX x fk fn ta j tn).2.1) fk fn 0), aI E mc 16 ((smF y (msF ((slX x fk fn ta j tn).2.2.2) ((slX x fk fn ta j tn).2.2.1) ((slX x fk fn ta j tn).2.1) fk fn 0) (slT txt ta ((slX x fk fn ta j tn).1) j 0 (tn - j)) (slN j (tn - j) + 16)).1), aI E mu 17 ((smF y (msF ((slX x fk fn ta j tn).2.2.2) ((slX x fk fn ta j tn).2.2.1) ((slX x fk fn ta j tn).2.1) fk fn 0) (slT txt ta ((slX x fk fn ta j tn).1) j 0 (tn - j)) (slN j (tn - j) + 16)).2.1), aI E mp 35 ((smF y (msF ((slX x fk fn ta j tn).2.2.2) ((slX x fk fn ta j tn).2.2.1) ((slX x fk fn ta j tn).2.1) fk fn 0) (slT txt ta ((slX x fk fn ta j tn).1) j 0 (tn - j)) (slN j (tn - j) + 16)).2.2.1), aI E ma 19 ((smF y (msF ((slX x fk fn ta j tn).2.2.2) ((slX x fk fn ta j tn).2.2.1) ((slX x fk fn ta j tn).2.1) fk fn 0) (slT txt ta ((slX x fk fn ta j tn).1) j 0 (tn - j)) (slN j (tn - j) + 16)).2.2.2.1), aB E mg 16 ((smF y (msF ((slX x fk fn ta j tn).2.2.2) ((slX x fk fn ta j tn).2.2.1) ((slX x fk fn ta j tn).2.1) fk fn 0) (slT txt ta ((slX x fk fn ta j tn).1) j 0 (tn - j)) (slN j (tn - j) + 16)).2.2.2.2), aB E mx 864 (slT txt ta ((slX x fk fn ta j tn).1) j 0 (tn - j))] [(2, .int (nI (tn - j))), (0, .ref h), (1, .int (nI j))] 0 0 42 []
  show J E 3 g [ob h 4 [.ref mt, .int (nI tn), .ref mo, .int (nI on), .ref mk, .ref mn, .ref mr, .int (nI rc), .ref mh, .ref mw, .ref mi, .ref mv, .ref mb, .ref ms, .ref mu, .ref mp, .ref mc, .ref mx, .ref mg, .ref ma, .int (nI (slN j (tn - j)))], aB E mt 800 ta, aB E mo 816 ((slC x fk fn ta j tn).1), aB E mk 32 fk, aB E mn 12 fn, aI E mv 16 ((slC x fk fn ta j tn).2.1), aI E mb 16 ((slC x fk fn ta j tn).2.2.1), aB E ms 64 ((slC x fk fn ta j tn).2.2.2), aI E mc 16 ((slY x y fk fn ta txt j tn).1), aI E mu 17 ((slY x y fk fn ta txt j tn).2.1), aI E mp 35 ((slY x y fk fn ta txt j tn).2.2.1), aI E ma 19 ((slY x y fk fn ta txt j tn).2.2.2.1), aB E mg 16 ((slY x y fk fn ta txt j tn).2.2.2.2), aB E mx 864 (slT txt ta (slX x fk fn ta j tn).1 j 0 (tn - j))] [(2, .int (nI (tn - j))), (0, .ref h), (1, .int (nI j))] 0 0 42 []
  refine j_aload_n hg 1 dM_seal_42 rfl rfl ?_
  refine j_iconst hg (v := 0) dM_seal_43 (by decide) ?_
  refine j_put hg (C := RX4) (T := TX4) (N := 21) (ty := .int) (ws' := [ob h 4 [.ref mt, .int 0, .ref mo, .int (nI on), .ref mk, .ref mn, .ref mr, .int (nI rc), .ref mh, .ref mw, .ref mi, .ref mv, .ref mb, .ref ms, .ref mu, .ref mp, .ref mc, .ref mx, .ref mg, .ref ma, .int (nI (slN j (tn - j)))], aB E mt 800 ta, aB E mo 816 ((slC x fk fn ta j tn).1), aB E mk 32 fk, aB E mn 12 fn, aI E mv 16 ((slC x fk fn ta j tn).2.1), aI E mb 16 ((slC x fk fn ta j tn).2.2.1), aB E ms 64 ((slC x fk fn ta j tn).2.2.2), aI E mc 16 ((slY x y fk fn ta txt j tn).1), aI E mu 17 ((slY x y fk fn ta txt j tn).2.1), aI E mp 35 ((slY x y fk fn ta txt j tn).2.2.1), aI E ma 19 ((slY x y fk fn ta txt j tn).2.2.2.1), aB E mg 16 ((slY x y fk fn ta txt j tn).2.2.2.2), aB E mx 864 (slT txt ta (slX x fk fn ta j tn).1 j 0 (tn - j))]) inX4 tyX4 tyX4_ok nmX4 0 rfl rfl 1 (by decide) m329 rfl (by decide +kernel) rfl rfl (Nat.le_of_ble_eq_true rfl) rfl dM_seal_44 ?_
  refine j_aload_n hg 1 dM_seal_47 rfl rfl ?_
  refine j_iload_n hg 0 dM_seal_48 rfl rfl ?_
  refine j_put hg (C := RX4) (T := TX4) (N := 21) (ty := .int) (ws' := [ob h 4 [.ref mt, .int 0, .ref mo, .int (nI (tn - j)), .ref mk, .ref mn, .ref mr, .int (nI rc), .ref mh, .ref mw, .ref mi, .ref mv, .ref mb, .ref ms, .ref mu, .ref mp, .ref mc, .ref mx, .ref mg, .ref ma, .int (nI (slN j (tn - j)))], aB E mt 800 ta, aB E mo 816 ((slC x fk fn ta j tn).1), aB E mk 32 fk, aB E mn 12 fn, aI E mv 16 ((slC x fk fn ta j tn).2.1), aI E mb 16 ((slC x fk fn ta j tn).2.2.1), aB E ms 64 ((slC x fk fn ta j tn).2.2.2), aI E mc 16 ((slY x y fk fn ta txt j tn).1), aI E mu 17 ((slY x y fk fn ta txt j tn).2.1), aI E mp 35 ((slY x y fk fn ta txt j tn).2.2.1), aI E ma 19 ((slY x y fk fn ta txt j tn).2.2.2.1), aB E mg 16 ((slY x y fk fn ta txt j tn).2.2.2.2), aB E mx 864 (slT txt ta (slX x fk fn ta j tn).1 j 0 (tn - j))]) inX4 tyX4 tyX4_ok nmX4 0 rfl rfl 3 (by decide) m331 rfl (by decide +kernel) rfl rfl (Nat.le_of_ble_eq_true rfl) rfl dM_seal_49 ?_
  refine j_aload_n hg 1 dM_seal_52 rfl rfl ?_
  refine j_callV hg (n := 0) (y := yM_tag) (rm := rm_M_tag) (Ws := (cT yM_tag cM_tag 2 (some .int))) (As := []) (rest := []) (wr := [aB E mt 800 ta, aB E mk 32 fk, aB E mn 12 fn, aI E mv 16 ((slC x fk fn ta j tn).2.1), aI E mb 16 ((slC x fk fn ta j tn).2.2.1), aB E ms 64 ((slC x fk fn ta j tn).2.2.2), aI E mc 16 ((slY x y fk fn ta txt j tn).1), aI E mu 17 ((slY x y fk fn ta txt j tn).2.1), aI E mp 35 ((slY x y fk fn ta txt j tn).2.2.1), aI E ma 19 ((slY x y fk fn ta txt j tn).2.2.2.1), aB E mx 864 (slT txt ta (slX x fk fn ta j tn).1 j 0 (tn - j))]) 0 rfl rfl (c_M_tag l E h mt mo mk mn mr mh mw mi mv mb ms mu mp mc mx mg ma 0 (tn - j) rc (slN j (tn - j)) ((slY x y fk fn ta txt j tn).2.2.2.2) ((slC x fk fn ta j tn).1) hB3 (by omega)) (gdV m454 m456 ms24 m5 m457) rfl (by decide +kernel) ⟨by decide, by decide⟩ rfl rfl (Nat.le_of_ble_eq_true rfl) ⟨by decide, by decide⟩ [0, 12, 2] [1, 3, 4, 5, 6, 7, 8, 9, 10, 11, 13] rfl rfl (by decide) (by decide) (by decide) dM_seal_53 (fun _ _ => ?_)
  show J E 3 g [aB E mt 800 ta, aB E mk 32 fk, aB E mn 12 fn, aI E mv 16 ((slC x fk fn ta j tn).2.1), aI E mb 16 ((slC x fk fn ta j tn).2.2.1), aB E ms 64 ((slC x fk fn ta j tn).2.2.2), aI E mc 16 ((slY x y fk fn ta txt j tn).1), aI E mu 17 ((slY x y fk fn ta txt j tn).2.1), aI E mp 35 ((slY x y fk fn ta txt j tn).2.2.1), aI E ma 19 ((slY x y fk fn ta txt j tn).2.2.2.1), aB E mx 864 (slT txt ta (slX x fk fn ta j tn).1 j 0 (tn - j)), ob h 4 [.ref mt, .int 0, .ref mo, .int (nI (tn - j + 16)), .ref mk, .ref mn, .ref mr, .int (nI rc), .ref mh, .ref mw, .ref mi, .ref mv, .ref mb, .ref ms, .ref mu, .ref mp, .ref mc, .ref mx, .ref mg, .ref ma, .int (nI (slN j (tn - j)))], aB E mg 16 ((slY x y fk fn ta txt j tn).2.2.2.2), aB E mo 816 (cpT ((slC x fk fn ta j tn).1) ((slY x y fk fn ta txt j tn).2.2.2.2) (tn - j) 16)] [(2, .int (nI (tn - j))), (0, .ref h), (1, .int (nI j))] 0 0 56 [.int (nI (tn - j + 16))]
  exact j_iret hg hR rfl () trivial rfl [11, 0, 13, 1, 2, 3, 4, 5, 6, 7, 8, 9, 12, 10] rfl (by decide) (by decide) (by decide) dM_seal_56

def rm_M_open : Room := { frames := 4, cells := 0, slots := 0, locals := 94 }
set_option maxHeartbeats 1000000 in
set_option maxRecDepth 100000 in
theorem c_M_open_r (l : Launch) (E : Ev) (h mt mo mk mn mr mh mw mi mv mb ms mu mp mc mx mg ma : Nat) (tn on rc tx : Nat) (n : Int32) (hn : ro n tn = none) (ht : tn < 1000000) : MC E l yM_open (cT yM_open cM_open 5 (some .int)) rm_M_open [.ref h, .int n] [ob h 4 [.ref mt, .int (nI tn), .ref mo, .int (nI on), .ref mk, .ref mn, .ref mr, .int (nI rc), .ref mh, .ref mw, .ref mi, .ref mv, .ref mb, .ref ms, .ref mu, .ref mp, .ref mc, .ref mx, .ref mg, .ref ma, .int (nI tx)]] Unit (fun _ => True) (fun _ => some (.int (-1))) (fun _ => [ob h 4 [.ref mt, .int (nI tn), .ref mo, .int (nI on), .ref mk, .ref mn, .ref mr, .int (nI rc), .ref mh, .ref mw, .ref mi, .ref mv, .ref mb, .ref ms, .ref mu, .ref mp, .ref mc, .ref mx, .ref mg, .ref ma, .int (nI tx)]]) := by
  refine MC.of (cc := cM_open) (nL := 5) (ret := (some .int)) (by decide) rfl cT_in (Nat.le_of_ble_eq_true rfl) (fun g hg hR => ?_)
  show J E 5 g [ob h 4 [.ref mt, .int (nI tn), .ref mo, .int (nI on), .ref mk, .ref mn, .ref mr, .int (nI rc), .ref mh, .ref mw, .ref mi, .ref mv, .ref mb, .ref ms, .ref mu, .ref mp, .ref mc, .ref mx, .ref mg, .ref ma, .int (nI tx)]] [(0, .ref h), (1, .int n)] 0 0 0 []
  refine j_iload_n hg 1 dM_open_0 rfl rfl ?_
  refine j_if_lt hg (tgt := 15) dM_open_1 (by decide) (fun hc => ?_) (fun hc => ?_)
  · skip
    refine j_iconst hg (v := -1) dM_open_15 (by decide) ?_
    exact j_iret hg hR rfl () trivial rfl [0] rfl (by decide) (by decide) (by decide) dM_open_16
  · skip
    obtain ⟨j, hj, rfl⟩ := nI_of hc
    refine j_aload_n hg 0 dM_open_4 rfl rfl ?_
    refine j_get hg (C := RX4) (T := TX4) (N := 21) inX4 0 rfl rfl 1 (by decide) m329 rfl dM_open_5 ?_
    refine j_bipush hg (v := 16) dM_open_8 (by decide) ?_
    refine j_isub hg (v := (nI tn) - 16) dM_open_10 rfl ?_
    refine j_iload_n hg 1 dM_open_11 rfl rfl ?_
    refine j_icmp_ge hg (tgt := 17) dM_open_12 (by decide) (fun c => absurd c (ro_cmp hj ht (ro_lt hj hn))) (fun _ => ?_)
    refine j_iconst hg (v := -1) dM_open_15 (by decide) ?_
    exact j_iret hg hR rfl () trivial rfl [0] rfl (by decide) (by decide) (by decide) dM_open_16

set_option maxHeartbeats 1000000 in
set_option maxRecDepth 100000 in
theorem c_M_open_n (l : Launch) (E : Ev) (h mt mo mk mn mr mh mw mi mv mb ms mu mp mc mx mg ma : Nat) (tn on rc tx : Nat) (fk fn ta txt : Nat → Int32) (x : MCS) (y : S5) (j : Nat) (hta : Byt ta) (hj : j + 16 ≤ tn) (ht : tn ≤ 800) (hd9 : isN ta (opY x y fk fn ta txt j tn).2.2.2.2 (j + (tn - 16 - j)) 16 = 0) : MC E l yM_open (cT yM_open cM_open 5 (some .int)) rm_M_open [.ref h, .int (nI j)] [ob h 4 [.ref mt, .int (nI tn), .ref mo, .int (nI on), .ref mk, .ref mn, .ref mr, .int (nI rc), .ref mh, .ref mw, .ref mi, .ref mv, .ref mb, .ref ms, .ref mu, .ref mp, .ref mc, .ref mx, .ref mg, .ref ma, .int (nI tx)], aB E mt 800 ta, aB E mo 816 x.1, aB E mk 32 fk, aB E mn 12 fn, aI E mv 16 x.2.1, aI E mb 16 x.2.2.1, aB E ms 64 x.2.2.2, aI E mc 16 y.1, aI E mu 17 y.2.1, aI E mp 35 y.2.2.1, aI E ma 19 y.2.2.2.1, aB E mg 16 y.2.2.2.2, aB E mx 864 txt] Unit (fun _ => True) (fun _ => some (.int (-2))) (fun _ => [ob h 4 [.ref mt, .int 0, .ref mo, .int (nI on), .ref mk, .ref mn, .ref mr, .int (nI rc), .ref mh, .ref mw, .ref mi, .ref mv, .ref mb, .ref ms, .ref mu, .ref mp, .ref mc, .ref mx, .ref mg, .ref ma, .int (nI (slN j (tn - 16 - j)))], aB E mt 800 ta, aB E mo 816 ((opC x fk fn).1), aB E mk 32 fk, aB E mn 12 fn, aI E mv 16 ((opC x fk fn).2.1), aI E mb 16 ((opC x fk fn).2.2.1), aB E ms 64 ((opC x fk fn).2.2.2), aI E mc 16 ((opY x y fk fn ta txt j tn).1), aI E mu 17 ((opY x y fk fn ta txt j tn).2.1), aI E mp 35 ((opY x y fk fn ta txt j tn).2.2.1), aI E ma 19 ((opY x y fk fn ta txt j tn).2.2.2.1), aB E mg 16 ((opY x y fk fn ta txt j tn).2.2.2.2), aB E mx 864 (slT txt ta ta j j (tn - 16 - j))]) := by
  refine MC.of (cc := cM_open) (nL := 5) (ret := (some .int)) (by decide) rfl cT_in (Nat.le_of_ble_eq_true rfl) (fun g hg hR => ?_)
  show J E 5 g [ob h 4 [.ref mt, .int (nI tn), .ref mo, .int (nI on), .ref mk, .ref mn, .ref mr, .int (nI rc), .ref mh, .ref mw, .ref mi, .ref mv, .ref mb, .ref ms, .ref mu, .ref mp, .ref mc, .ref mx, .ref mg, .ref ma, .int (nI tx)], aB E mt 800 ta, aB E mo 816 x.1, aB E mk 32 fk, aB E mn 12 fn, aI E mv 16 x.2.1, aI E mb 16 x.2.2.1, aB E ms 64 x.2.2.2, aI E mc 16 y.1, aI E mu 17 y.2.1, aI E mp 35 y.2.2.1, aI E ma 19 y.2.2.2.1, aB E mg 16 y.2.2.2.2, aB E mx 864 txt] [(0, .ref h), (1, .int (nI j))] 0 0 0 []
  refine j_iload_n hg 1 dM_open_0 rfl rfl ?_
  refine j_zlt_f hg (tgt := 15) j rfl (by omega) (by omega) dM_open_1 (by decide) ?_
  refine j_aload_n hg 0 dM_open_4 rfl rfl ?_
  refine j_get hg (C := RX4) (T := TX4) (N := 21) inX4 0 rfl rfl 1 (by decide) m329 rfl dM_open_5 ?_
  refine j_bipush hg (v := 16) dM_open_8 (by decide) ?_
  refine j_isub hg (v := nI (tn - 16)) dM_open_10 (pk_sub (a := tn) (b := 16) (by omega)) ?_
  refine j_iload_n hg 1 dM_open_11 rfl rfl ?_
  refine j_nge_t hg (tgt := 17) (tn - 16) j rfl rfl (by omega) (by omega) (by omega) dM_open_12 (by decide) ?_
  refine j_aload_n hg 0 dM_open_17 rfl rfl ?_
  refine j_get hg (C := RX4) (T := TX4) (N := 21) inX4 0 rfl rfl 1 (by decide) m329 rfl dM_open_18 ?_
  refine j_bipush hg (v := 16) dM_open_21 (by decide) ?_
  refine j_isub hg (v := nI (tn - 16)) dM_open_23 (pk_sub (a := tn) (b := 16) (by omega)) ?_
  refine j_iload_n hg 1 dM_open_24 rfl rfl ?_
  refine j_isub hg (v := nI ((tn - 16) - j)) dM_open_25 (pk_sub (a := tn - 16) (b := j) (by omega)) ?_
  refine j_istore_n hg (lv' := [(2, .int (nI ((tn - 16) - j))), (0, .ref h), (1, .int (nI j))]) dM_open_26 rfl (by decide) rfl ?_
  refine j_aload_n hg 1 dM_open_27 rfl rfl ?_
  refine j_iload_n hg 2 dM_open_28 rfl rfl ?_
  refine j_aload_n hg 1 dM_open_29 rfl rfl ?_
  refine j_get hg (C := RX4) (T := TX4) (N := 21) inX4 0 rfl rfl 0 (by decide) m328 rfl dM_open_30 ?_
  refine j_iload_n hg 2 dM_open_33 rfl rfl ?_
  refine j_iload_n hg 0 dM_open_34 rfl rfl ?_
  refine j_callV hg (n := 4) (y := yM_seals) (rm := rm_M_seals) (Ws := (cT yM_seals cM_seals 6 none)) (As := [.int (nI j), .ref mt, .int (nI j), .int (nI ((tn - 16) - j))]) (rest := []) (wr := [aB E mo 816 x.1]) 0 rfl rfl (c_M_seals_t l E h mt mo mk mn mr mh mw mi mv mb ms mu mp mc mx mg ma tn on rc tx fk fn x.2.1 x.2.2.1 x.2.2.2 ta  txt y j j ((tn - 16) - j) hta (by omega) (by omega)) (gdV m466 m468 ms26 m5 m469) rfl (by decide +kernel) ⟨by decide, by decide⟩ rfl rfl (Nat.le_of_ble_eq_true rfl) ⟨by decide, by decide⟩ [0, 1, 3, 4, 5, 6, 7, 8, 9, 10, 11, 12, 13] [2] rfl rfl (by decide) (by decide) (by decide) dM_open_35 (fun _ _ => ?_)
  show J E 5 g [aB E mo 816 x.1, ob h 4 [.ref mt, .int (nI tn), .ref mo, .int (nI on), .ref mk, .ref mn, .ref mr, .int (nI rc), .ref mh, .ref mw, .ref mi, .ref mv, .ref mb, .ref ms, .ref mu, .ref mp, .ref mc, .ref mx, .ref mg, .ref ma, .int (nI (slN j ((tn - 16) - j)))], aB E mt 800 ta, aB E mk 32 fk, aB E mn 12 fn, aI E mv 16 (mvF x.2.2.1 x.2.1 fk fn 0), aI E mb 16 (layF x.2.2.1 fk fn 0), aB E ms 64 (msF x.2.2.2 x.2.2.1 x.2.1 fk fn 0), aI E mc 16 ((smF y (msF x.2.2.2 x.2.2.1 x.2.1 fk fn 0) (slT txt ta ta j j ((tn - 16) - j)) (slN j ((tn - 16) - j) + 16)).1), aI E mu 17 ((smF y (msF x.2.2.2 x.2.2.1 x.2.1 fk fn 0) (slT txt ta ta j j ((tn - 16) - j)) (slN j ((tn - 16) - j) + 16)).2.1), aI E mp 35 ((smF y (msF x.2.2.2 x.2.2.1 x.2.1 fk fn 0) (slT txt ta ta j j ((tn - 16) - j)) (slN j ((tn - 16) - j) + 16)).2.2.1), aI E ma 19 ((smF y (msF x.2.2.2 x.2.2.1 x.2.1 fk fn 0) (slT txt ta ta j j ((tn - 16) - j)) (slN j ((tn - 16) - j) + 16)).2.2.2.1), aB E mg 16 ((smF y (msF x.2.2.2 x.2.2.1 x.2.1 fk fn 0) (slT txt ta ta j j ((tn - 16) - j)) (slN j ((tn - 16) - j) + 16)).2.2.2.2), aB E mx 864 (slT txt ta ta j j ((tn - 16) - j))] [(2, .int (nI ((tn - 16) - j))), (0, .ref h), (1, .int (nI j))] 0 0 38 []
  refine j_sub [1, 2, 0, 3, 4, 5, 6, 7, 8, 9, 10, 11, 12, 13] (ws' := [ob h 4 [.ref mt, .int (nI tn), .ref mo, .int (nI on), .ref mk, .ref mn, .ref mr, .int (nI rc), .ref mh, .ref mw, .ref mi, .ref mv, .ref mb, .ref ms, .ref mu, .ref mp, .ref mc, .ref mx, .ref mg, .ref ma, .int (nI (slN j ((tn - 16) - j)))], aB E mt 800 ta, aB E mo 816 x.1, aB E mk 32 fk, aB E mn 12 fn, aI E mv 16 (mvF x.2.2.1 x.2.1 fk fn 0), aI E mb 16 (layF x.2.2.1 fk fn 0), aB E ms 64 (msF x.2.2.2 x.2.2.1 x.2.1 fk fn 0), aI E mc 16 ((smF y (msF x.2.2.2 x.2.2.1 x.2.1 fk fn 0) (slT txt ta ta j j ((tn - 16) - j)) (slN j ((tn - 16) - j) + 16)).1), aI E mu 17 ((smF y (msF x.2.2.2 x.2.2.1 x.2.1 fk fn 0) (slT txt ta ta j j ((tn - 16) - j)) (slN j ((tn - 16) - j) + 16)).2.1), aI E mp 35 ((smF y (msF x.2.2.2 x.2.2.1 x.2.1 fk fn 0) (slT txt ta ta j j ((tn - 16) - j)) (slN j ((tn - 16) - j) + 16)).2.2.1), aI E ma 19 ((smF y (msF x.2.2.2 x.2.2.1 x.2.1 fk fn 0) (slT txt ta ta j j ((tn - 16) - j)) (slN j ((tn - 16) - j) + 16)).2.2.2.1), aB E mg 16 ((smF y (msF x.2.2.2 x.2.2.1 x.2.1 fk fn 0) (slT txt ta ta j j ((tn - 16) - j)) (slN j ((tn - 16) - j) + 16)).2.2.2.2), aB E mx 864 (slT txt ta ta j j ((tn - 16) - j))]) rfl (by decide) ?_
  show J E 5 g [ob h 4 [.ref mt, .int (nI tn), .ref mo, .int (nI on), .ref mk, .ref mn, .ref mr, .int (nI rc), .ref mh, .ref mw, .ref mi, .ref mv, .ref mb, .ref ms, .ref mu, .ref mp, .ref mc, .ref mx, .ref mg, .ref ma, .int (nI (slN j (tn - 16 - j)))], aB E mt 800 ta, aB E mo 816 ((opC x fk fn).1), aB E mk 32 fk, aB E mn 12 fn, aI E mv 16 ((opC x fk fn).2.1), aI E mb 16 ((opC x fk fn).2.2.1), aB E ms 64 ((opC x fk fn).2.2.2), aI E mc 16 ((opY x y fk fn ta txt j tn).1), aI E mu 17 ((opY x y fk fn ta txt j tn).2.1), aI E mp 35 ((opY x y fk fn ta txt j tn).2.2.1), aI E ma 19 ((opY x y fk fn ta txt j tn).2.2.2.1), aB E mg 16 ((opY x y fk fn ta txt j tn).2.2.2.2), aB E mx 864 (slT txt ta ta j j (tn - 16 - j))] [(2, .int (nI ((tn - 16) - j))), (0, .ref h), (1, .int (nI j))] 0 0 38 []
  refine j_iconst hg (v := 1) dM_open_38 (by decide) ?_
  refine j_istore_n hg (lv' := [(3, .int 1), (2, .int (nI ((tn - 16) - j))), (0, .ref h), (1, .int (nI j))]) dM_open_39 rfl (by decide) rfl ?_
  refine j_iconst hg (v := 0) dM_open_40 (by decide) ?_
  refine j_istore hg (lv' := [(4, .int 0), (3, .int 1), (2, .int (nI ((tn - 16) - j))), (0, .ref h), (1, .int (nI j))]) dM_open_41 (by decide) rfl ?_
  refine j_pick [3, 4, 2, 1, 0] (lv' := [(0, .ref h), (1, .int (nI j)), (2, .int (nI ((tn - 16) - j))), (3, .int 1), (4, .int 0)]) rfl ?_
  have loop : ∀ (zk i : Nat), i + zk = 16 → J E 5 g [ob h 4 [.ref mt, .int (nI tn), .ref mo, .int (nI on), .ref mk, .ref mn, .ref mr, .int (nI rc), .ref mh, .ref mw, .ref mi, .ref mv, .ref mb, .ref ms, .ref mu, .ref mp, .ref mc, .ref mx, .ref mg, .ref ma, .int (nI (slN j (tn - 16 - j)))], aB E mt 800 ta, aB E mo 816 ((opC x fk fn).1), aB E mk 32 fk, aB E mn 12 fn, aI E mv 16 ((opC x fk fn).2.1), aI E mb 16 ((opC x fk fn).2.2.1), aB E ms 64 ((opC x fk fn).2.2.2), aI E mc 16 ((opY x y fk fn ta txt j tn).1), aI E mu 17 ((opY x y fk fn ta txt j tn).2.1), aI E mp 35 ((opY x y fk fn ta txt j tn).2.2.1), aI E ma 19 ((opY x y fk fn ta txt j tn).2.2.2.1), aB E mg 16 ((opY x y fk fn ta txt j tn).2.2.2.2), aB E mx 864 (slT txt ta ta j j (tn - 16 - j))] [(0, .ref h), (1, .int (nI j)), (2, .int (nI (tn - 16 - j))), (3, .int (isN ta (opY x y fk fn ta txt j tn).2.2.2.2 (j + (tn - 16 - j)) i)), (4, .int (nI i))] 0 0 43 [] := by
    intro zk
    induction zk with
    | zero =>
      intro i  hi
      obtain rfl : 16 = i := by omega
      refine j_iload hg 4 dM_open_43 rfl ?_
      refine j_bipush hg (v := 16) dM_open_45 (by decide) ?_
      refine j_nge_t hg (tgt := 87) 16 16 rfl rfl (by omega) (by omega) (by omega) dM_open_47 (by decide) ?_
      refine j_aload_n hg 0 dM_open_87 rfl rfl ?_
      refine j_iconst hg (v := 0) dM_open_88 (by decide) ?_
      refine j_put hg (C := RX4) (T := TX4) (N := 21) (ty := .int) (ws' := [ob h 4 [.ref mt, .int 0, .ref mo, .int (nI on), .ref mk, .ref mn, .ref mr, .int (nI rc), .ref mh, .ref mw, .ref mi, .ref mv, .ref mb, .ref ms, .ref mu, .ref mp, .ref mc, .ref mx, .ref mg, .ref ma, .int (nI (slN j (tn - 16 - j)))], aB E mt 800 ta, aB E mo 816 ((opC x fk fn).1), aB E mk 32 fk, aB E mn 12 fn, aI E mv 16 ((opC x fk fn).2.1), aI E mb 16 ((opC x fk fn).2.2.1), aB E ms 64 ((opC x fk fn).2.2.2), aI E mc 16 ((opY x y fk fn ta txt j tn).1), aI E mu 17 ((opY x y fk fn ta txt j tn).2.1), aI E mp 35 ((opY x y fk fn ta txt j tn).2.2.1), aI E ma 19 ((opY x y fk fn ta txt j tn).2.2.2.1), aB E mg 16 ((opY x y fk fn ta txt j tn).2.2.2.2), aB E mx 864 (slT txt ta ta j j (tn - 16 - j))]) inX4 tyX4 tyX4_ok nmX4 0 rfl rfl 1 (by decide) m329 rfl (by decide +kernel) rfl rfl (Nat.le_of_ble_eq_true rfl) rfl dM_open_89 ?_
      refine j_iload_n hg 3 dM_open_92 rfl rfl ?_
      refine j_if_ne hg (tgt := 99) dM_open_93 (by decide) (fun c => absurd hd9 c) (fun _ => ?_)
      refine j_bipush hg (v := -2) dM_open_96 (by decide) ?_
      exact j_iret hg hR rfl () trivial rfl [0, 1, 2, 3, 4, 5, 6, 7, 8, 9, 10, 11, 12, 13] rfl (by decide) (by decide) (by decide) dM_open_98
    | succ zk ih =>
      intro i  hi
      refine j_iload hg 4 dM_open_43 rfl ?_
      refine j_bipush hg (v := 16) dM_open_45 (by decide) ?_
      refine j_nge_f hg (tgt := 87) i 16 rfl rfl (by omega) (by omega) (by omega) dM_open_47 (by decide) ?_
      refine j_iload_n hg 3 dM_open_50 rfl rfl ?_
      refine j_if_eq hg (tgt := 79) dM_open_51 (by decide) (fun hc => ?_) (fun hc => ?_)
      · skip
        refine j_iconst hg (v := 0) dM_open_79 (by decide) ?_
        refine j_topi (show (0 : Int32) = isN ta (opY x y fk fn ta txt j tn).2.2.2.2 (j + (tn - 16 - j)) (i + 1) from by show _ = ite _ _ _; rw [if_neg (fun q => q.1 hc)]) ?_
        refine j_istore_n hg (lv' := [(3, .int (isN ta (opY x y fk fn ta txt j tn).2.2.2.2 (j + (tn - 16 - j)) (i + 1))), (0, .ref h), (1, .int (nI j)), (2, .int (nI (tn - 16 - j))), (4, .int (nI i))]) dM_open_80 rfl (by decide) rfl ?_
        refine j_iinc hg (kq := 4) (v := nI (i + 1)) (lv' := [(4, .int (nI (i + 1))), (3, .int (isN ta (opY x y fk fn ta txt j tn).2.2.2.2 (j + (tn - 16 - j)) (i + 1))), (0, .ref h), (1, .int (nI j)), (2, .int (nI (tn - 16 - j)))]) dM_open_81 rfl (nI_add i 1) (by decide) rfl ?_
        refine j_goto hg (tgt := 43) dM_open_84 (by decide) ?_
        refine j_pick [2, 3, 4, 1, 0] (lv' := [(0, .ref h), (1, .int (nI j)), (2, .int (nI (tn - 16 - j))), (3, .int (isN ta (opY x y fk fn ta txt j tn).2.2.2.2 (j + (tn - 16 - j)) (i + 1))), (4, .int (nI (i + 1)))]) rfl ?_
        exact ih (i + 1) (by omega)
      · skip
        refine j_aload_n hg 0 dM_open_54 rfl rfl ?_
        refine j_get hg (C := RX4) (T := TX4) (N := 21) inX4 0 rfl rfl 0 (by decide) m328 rfl dM_open_55 ?_
        refine j_iload_n hg 1 dM_open_58 rfl rfl ?_
        refine j_iload_n hg 2 dM_open_59 rfl rfl ?_
        refine j_iadd hg (v := nI (j + (tn - 16 - j))) dM_open_60 (nI_add j (tn - 16 - j)) ?_
        refine j_iload hg 4 dM_open_61 rfl ?_
        refine j_iadd hg (v := nI (j + (tn - 16 - j) + i)) dM_open_63 (nI_add (j + (tn - 16 - j)) i) ?_
        refine j_bald hg (v := ta (j + (tn - 16 - j) + i)) 1 (j + (tn - 16 - j) + i) rfl rfl (by omega) (by omega) rfl dM_open_64 ?_
        refine j_aload_n hg 0 dM_open_65 rfl rfl ?_
        refine j_get hg (C := RX4) (T := TX4) (N := 21) inX4 0 rfl rfl 18 (by decide) m346 rfl dM_open_66 ?_
        refine j_iload hg 4 dM_open_69 rfl ?_
        refine j_bald hg (v := ((opY x y fk fn ta txt j tn).2.2.2.2) i) 12 i rfl rfl (by omega) (by omega) rfl dM_open_71 ?_
        refine j_icmp_ne hg (tgt := 79) dM_open_72 (by decide) (fun hd => ?_) (fun hd => ?_)
        · skip
          refine j_iconst hg (v := 0) dM_open_79 (by decide) ?_
          refine j_topi (show (0 : Int32) = isN ta (opY x y fk fn ta txt j tn).2.2.2.2 (j + (tn - 16 - j)) (i + 1) from by show _ = ite _ _ _; rw [if_neg (fun q => hd q.2)]) ?_
          refine j_istore_n hg (lv' := [(3, .int (isN ta (opY x y fk fn ta txt j tn).2.2.2.2 (j + (tn - 16 - j)) (i + 1))), (0, .ref h), (1, .int (nI j)), (2, .int (nI (tn - 16 - j))), (4, .int (nI i))]) dM_open_80 rfl (by decide) rfl ?_
          refine j_iinc hg (kq := 4) (v := nI (i + 1)) (lv' := [(4, .int (nI (i + 1))), (3, .int (isN ta (opY x y fk fn ta txt j tn).2.2.2.2 (j + (tn - 16 - j)) (i + 1))), (0, .ref h), (1, .int (nI j)), (2, .int (nI (tn - 16 - j)))]) dM_open_81 rfl (nI_add i 1) (by decide) rfl ?_
          refine j_goto hg (tgt := 43) dM_open_84 (by decide) ?_
          refine j_pick [2, 3, 4, 1, 0] (lv' := [(0, .ref h), (1, .int (nI j)), (2, .int (nI (tn - 16 - j))), (3, .int (isN ta (opY x y fk fn ta txt j tn).2.2.2.2 (j + (tn - 16 - j)) (i + 1))), (4, .int (nI (i + 1)))]) rfl ?_
          exact ih (i + 1) (by omega)
        · skip
          refine j_iconst hg (v := 1) dM_open_75 (by decide) ?_
          refine j_goto hg (tgt := 80) dM_open_76 (by decide) ?_
          refine j_topi (show (1 : Int32) = isN ta (opY x y fk fn ta txt j tn).2.2.2.2 (j + (tn - 16 - j)) (i + 1) from by show _ = ite _ _ _; rw [if_pos ⟨hc, hd⟩]) ?_
          refine j_istore_n hg (lv' := [(3, .int (isN ta (opY x y fk fn ta txt j tn).2.2.2.2 (j + (tn - 16 - j)) (i + 1))), (0, .ref h), (1, .int (nI j)), (2, .int (nI (tn - 16 - j))), (4, .int (nI i))]) dM_open_80 rfl (by decide) rfl ?_
          refine j_iinc hg (kq := 4) (v := nI (i + 1)) (lv' := [(4, .int (nI (i + 1))), (3, .int (isN ta (opY x y fk fn ta txt j tn).2.2.2.2 (j + (tn - 16 - j)) (i + 1))), (0, .ref h), (1, .int (nI j)), (2, .int (nI (tn - 16 - j)))]) dM_open_81 rfl (nI_add i 1) (by decide) rfl ?_
          refine j_goto hg (tgt := 43) dM_open_84 (by decide) ?_
          refine j_pick [2, 3, 4, 1, 0] (lv' := [(0, .ref h), (1, .int (nI j)), (2, .int (nI (tn - 16 - j))), (3, .int (isN ta (opY x y fk fn ta txt j tn).2.2.2.2 (j + (tn - 16 - j)) (i + 1))), (4, .int (nI (i + 1)))]) rfl ?_
          exact ih (i + 1) (by omega)
  exact loop (16) 0 (by omega)

set_option maxHeartbeats 1000000 in
set_option maxRecDepth 100000 in
theorem c_M_open_y (l : Launch) (E : Ev) (h mt mo mk mn mr mh mw mi mv mb ms mu mp mc mx mg ma : Nat) (tn on rc tx : Nat) (fk fn ta txt : Nat → Int32) (x : MCS) (y : S5) (j : Nat) (hta : Byt ta) (hj : j + 16 ≤ tn) (ht : tn ≤ 800) (hd9 : ¬ isN ta (opY x y fk fn ta txt j tn).2.2.2.2 (j + (tn - 16 - j)) 16 = 0) : MC E l yM_open (cT yM_open cM_open 5 (some .int)) rm_M_open [.ref h, .int (nI j)] [ob h 4 [.ref mt, .int (nI tn), .ref mo, .int (nI on), .ref mk, .ref mn, .ref mr, .int (nI rc), .ref mh, .ref mw, .ref mi, .ref mv, .ref mb, .ref ms, .ref mu, .ref mp, .ref mc, .ref mx, .ref mg, .ref ma, .int (nI tx)], aB E mt 800 ta, aB E mo 816 x.1, aB E mk 32 fk, aB E mn 12 fn, aI E mv 16 x.2.1, aI E mb 16 x.2.2.1, aB E ms 64 x.2.2.2, aI E mc 16 y.1, aI E mu 17 y.2.1, aI E mp 35 y.2.2.1, aI E ma 19 y.2.2.2.1, aB E mg 16 y.2.2.2.2, aB E mx 864 txt] Unit (fun _ => True) (fun _ => some (.int (nI (tn - 16 - j)))) (fun _ => [ob h 4 [.ref mt, .int 0, .ref mo, .int (nI (tn - 16 - j)), .ref mk, .ref mn, .ref mr, .int (nI rc), .ref mh, .ref mw, .ref mi, .ref mv, .ref mb, .ref ms, .ref mu, .ref mp, .ref mc, .ref mx, .ref mg, .ref ma, .int (nI (slN j (tn - 16 - j)))], aB E mt 800 ta, aB E mo 816 ((opD x fk fn ta j tn).1), aB E mk 32 fk, aB E mn 12 fn, aI E mv 16 ((opD x fk fn ta j tn).2.1), aI E mb 16 ((opD x fk fn ta j tn).2.2.1), aB E ms 64 ((opD x fk fn ta j tn).2.2.2), aI E mc 16 ((opY x y fk fn ta txt j tn).1), aI E mu 17 ((opY x y fk fn ta txt j tn).2.1), aI E mp 35 ((opY x y fk fn ta txt j tn).2.2.1), aI E ma 19 ((opY x y fk fn ta txt j tn).2.2.2.1), aB E mg 16 ((opY x y fk fn ta txt j tn).2.2.2.2), aB E mx 864 (slT txt ta ta j j (tn - 16 - j))]) := by
  refine MC.of (cc := cM_open) (nL := 5) (ret := (some .int)) (by decide) rfl cT_in (Nat.le_of_ble_eq_true rfl) (fun g hg hR => ?_)
  show J E 5 g [ob h 4 [.ref mt, .int (nI tn), .ref mo, .int (nI on), .ref mk, .ref mn, .ref mr, .int (nI rc), .ref mh, .ref mw, .ref mi, .ref mv, .ref mb, .ref ms, .ref mu, .ref mp, .ref mc, .ref mx, .ref mg, .ref ma, .int (nI tx)], aB E mt 800 ta, aB E mo 816 x.1, aB E mk 32 fk, aB E mn 12 fn, aI E mv 16 x.2.1, aI E mb 16 x.2.2.1, aB E ms 64 x.2.2.2, aI E mc 16 y.1, aI E mu 17 y.2.1, aI E mp 35 y.2.2.1, aI E ma 19 y.2.2.2.1, aB E mg 16 y.2.2.2.2, aB E mx 864 txt] [(0, .ref h), (1, .int (nI j))] 0 0 0 []
  refine j_iload_n hg 1 dM_open_0 rfl rfl ?_
  refine j_zlt_f hg (tgt := 15) j rfl (by omega) (by omega) dM_open_1 (by decide) ?_
  refine j_aload_n hg 0 dM_open_4 rfl rfl ?_
  refine j_get hg (C := RX4) (T := TX4) (N := 21) inX4 0 rfl rfl 1 (by decide) m329 rfl dM_open_5 ?_
  refine j_bipush hg (v := 16) dM_open_8 (by decide) ?_
  refine j_isub hg (v := nI (tn - 16)) dM_open_10 (pk_sub (a := tn) (b := 16) (by omega)) ?_
  refine j_iload_n hg 1 dM_open_11 rfl rfl ?_
  refine j_nge_t hg (tgt := 17) (tn - 16) j rfl rfl (by omega) (by omega) (by omega) dM_open_12 (by decide) ?_
  refine j_aload_n hg 0 dM_open_17 rfl rfl ?_
  refine j_get hg (C := RX4) (T := TX4) (N := 21) inX4 0 rfl rfl 1 (by decide) m329 rfl dM_open_18 ?_
  refine j_bipush hg (v := 16) dM_open_21 (by decide) ?_
  refine j_isub hg (v := nI (tn - 16)) dM_open_23 (pk_sub (a := tn) (b := 16) (by omega)) ?_
  refine j_iload_n hg 1 dM_open_24 rfl rfl ?_
  refine j_isub hg (v := nI ((tn - 16) - j)) dM_open_25 (pk_sub (a := tn - 16) (b := j) (by omega)) ?_
  refine j_istore_n hg (lv' := [(2, .int (nI ((tn - 16) - j))), (0, .ref h), (1, .int (nI j))]) dM_open_26 rfl (by decide) rfl ?_
  refine j_aload_n hg 1 dM_open_27 rfl rfl ?_
  refine j_iload_n hg 2 dM_open_28 rfl rfl ?_
  refine j_aload_n hg 1 dM_open_29 rfl rfl ?_
  refine j_get hg (C := RX4) (T := TX4) (N := 21) inX4 0 rfl rfl 0 (by decide) m328 rfl dM_open_30 ?_
  refine j_iload_n hg 2 dM_open_33 rfl rfl ?_
  refine j_iload_n hg 0 dM_open_34 rfl rfl ?_
  refine j_callV hg (n := 4) (y := yM_seals) (rm := rm_M_seals) (Ws := (cT yM_seals cM_seals 6 none)) (As := [.int (nI j), .ref mt, .int (nI j), .int (nI ((tn - 16) - j))]) (rest := []) (wr := [aB E mo 816 x.1]) 0 rfl rfl (c_M_seals_t l E h mt mo mk mn mr mh mw mi mv mb ms mu mp mc mx mg ma tn on rc tx fk fn x.2.1 x.2.2.1 x.2.2.2 ta  txt y j j ((tn - 16) - j) hta (by omega) (by omega)) (gdV m466 m468 ms26 m5 m469) rfl (by decide +kernel) ⟨by decide, by decide⟩ rfl rfl (Nat.le_of_ble_eq_true rfl) ⟨by decide, by decide⟩ [0, 1, 3, 4, 5, 6, 7, 8, 9, 10, 11, 12, 13] [2] rfl rfl (by decide) (by decide) (by decide) dM_open_35 (fun _ _ => ?_)
  show J E 5 g [aB E mo 816 x.1, ob h 4 [.ref mt, .int (nI tn), .ref mo, .int (nI on), .ref mk, .ref mn, .ref mr, .int (nI rc), .ref mh, .ref mw, .ref mi, .ref mv, .ref mb, .ref ms, .ref mu, .ref mp, .ref mc, .ref mx, .ref mg, .ref ma, .int (nI (slN j ((tn - 16) - j)))], aB E mt 800 ta, aB E mk 32 fk, aB E mn 12 fn, aI E mv 16 (mvF x.2.2.1 x.2.1 fk fn 0), aI E mb 16 (layF x.2.2.1 fk fn 0), aB E ms 64 (msF x.2.2.2 x.2.2.1 x.2.1 fk fn 0), aI E mc 16 ((smF y (msF x.2.2.2 x.2.2.1 x.2.1 fk fn 0) (slT txt ta ta j j ((tn - 16) - j)) (slN j ((tn - 16) - j) + 16)).1), aI E mu 17 ((smF y (msF x.2.2.2 x.2.2.1 x.2.1 fk fn 0) (slT txt ta ta j j ((tn - 16) - j)) (slN j ((tn - 16) - j) + 16)).2.1), aI E mp 35 ((smF y (msF x.2.2.2 x.2.2.1 x.2.1 fk fn 0) (slT txt ta ta j j ((tn - 16) - j)) (slN j ((tn - 16) - j) + 16)).2.2.1), aI E ma 19 ((smF y (msF x.2.2.2 x.2.2.1 x.2.1 fk fn 0) (slT txt ta ta j j ((tn - 16) - j)) (slN j ((tn - 16) - j) + 16)).2.2.2.1), aB E mg 16 ((smF y (msF x.2.2.2 x.2.2.1 x.2.1 fk fn 0) (slT txt ta ta j j ((tn - 16) - j)) (slN j ((tn - 16) - j) + 16)).2.2.2.2), aB E mx 864 (slT txt ta ta j j ((tn - 16) - j))] [(2, .int (nI ((tn - 16) - j))), (0, .ref h), (1, .int (nI j))] 0 0 38 []
  refine j_sub [1, 2, 0, 3, 4, 5, 6, 7, 8, 9, 10, 11, 12, 13] (ws' := [ob h 4 [.ref mt, .int (nI tn), .ref mo, .int (nI on), .ref mk, .ref mn, .ref mr, .int (nI rc), .ref mh, .ref mw, .ref mi, .ref mv, .ref mb, .ref ms, .ref mu, .ref mp, .ref mc, .ref mx, .ref mg, .ref ma, .int (nI (slN j ((tn - 16) - j)))], aB E mt 800 ta, aB E mo 816 x.1, aB E mk 32 fk, aB E mn 12 fn, aI E mv 16 (mvF x.2.2.1 x.2.1 fk fn 0), aI E mb 16 (layF x.2.2.1 fk fn 0), aB E ms 64 (msF x.2.2.2 x.2.2.1 x.2.1 fk fn 0), aI E mc 16 ((smF y (msF x.2.2.2 x.2.2.1 x.2.1 fk fn 0) (slT txt ta ta j j ((tn - 16) - j)) (slN j ((tn - 16) - j) + 16)).1), aI E mu 17 ((smF y (msF x.2.2.2 x.2.2.1 x.2.1 fk fn 0) (slT txt ta ta j j ((tn - 16) - j)) (slN j ((tn - 16) - j) + 16)).2.1), aI E mp 35 ((smF y (msF x.2.2.2 x.2.2.1 x.2.1 fk fn 0) (slT txt ta ta j j ((tn - 16) - j)) (slN j ((tn - 16) - j) + 16)).2.2.1), aI E ma 19 ((smF y (msF x.2.2.2 x.2.2.1 x.2.1 fk fn 0) (slT txt ta ta j j ((tn - 16) - j)) (slN j ((tn - 16) - j) + 16)).2.2.2.1), aB E mg 16 ((smF y (msF x.2.2.2 x.2.2.1 x.2.1 fk fn 0) (slT txt ta ta j j ((tn - 16) - j)) (slN j ((tn - 16) - j) + 16)).2.2.2.2), aB E mx 864 (slT txt ta ta j j ((tn - 16) - j))]) rfl (by decide) ?_
  show J E 5 g [ob h 4 [.ref mt, .int (nI tn), .ref mo, .int (nI on), .ref mk, .ref mn, .ref mr, .int (nI rc), .ref mh, .ref mw, .ref mi, .ref mv, .ref mb, .ref ms, .ref mu, .ref mp, .ref mc, .ref mx, .ref mg, .ref ma, .int (nI (slN j (tn - 16 - j)))], aB E mt 800 ta, aB E mo 816 ((opC x fk fn).1), aB E mk 32 fk, aB E mn 12 fn, aI E mv 16 ((opC x fk fn).2.1), aI E mb 16 ((opC x fk fn).2.2.1), aB E ms 64 ((opC x fk fn).2.2.2), aI E mc 16 ((opY x y fk fn ta txt j tn).1), aI E mu 17 ((opY x y fk fn ta txt j tn).2.1), aI E mp 35 ((opY x y fk fn ta txt j tn).2.2.1), aI E ma 19 ((opY x y fk fn ta txt j tn).2.2.2.1), aB E mg 16 ((opY x y fk fn ta txt j tn).2.2.2.2), aB E mx 864 (slT txt ta ta j j (tn - 16 - j))] [(2, .int (nI ((tn - 16) - j))), (0, .ref h), (1, .int (nI j))] 0 0 38 []
  refine j_iconst hg (v := 1) dM_open_38 (by decide) ?_
  refine j_istore_n hg (lv' := [(3, .int 1), (2, .int (nI ((tn - 16) - j))), (0, .ref h), (1, .int (nI j))]) dM_open_39 rfl (by decide) rfl ?_
  refine j_iconst hg (v := 0) dM_open_40 (by decide) ?_
  refine j_istore hg (lv' := [(4, .int 0), (3, .int 1), (2, .int (nI ((tn - 16) - j))), (0, .ref h), (1, .int (nI j))]) dM_open_41 (by decide) rfl ?_
  refine j_pick [3, 4, 2, 1, 0] (lv' := [(0, .ref h), (1, .int (nI j)), (2, .int (nI ((tn - 16) - j))), (3, .int 1), (4, .int 0)]) rfl ?_
  have loop : ∀ (zk i : Nat), i + zk = 16 → J E 5 g [ob h 4 [.ref mt, .int (nI tn), .ref mo, .int (nI on), .ref mk, .ref mn, .ref mr, .int (nI rc), .ref mh, .ref mw, .ref mi, .ref mv, .ref mb, .ref ms, .ref mu, .ref mp, .ref mc, .ref mx, .ref mg, .ref ma, .int (nI (slN j (tn - 16 - j)))], aB E mt 800 ta, aB E mo 816 ((opC x fk fn).1), aB E mk 32 fk, aB E mn 12 fn, aI E mv 16 ((opC x fk fn).2.1), aI E mb 16 ((opC x fk fn).2.2.1), aB E ms 64 ((opC x fk fn).2.2.2), aI E mc 16 ((opY x y fk fn ta txt j tn).1), aI E mu 17 ((opY x y fk fn ta txt j tn).2.1), aI E mp 35 ((opY x y fk fn ta txt j tn).2.2.1), aI E ma 19 ((opY x y fk fn ta txt j tn).2.2.2.1), aB E mg 16 ((opY x y fk fn ta txt j tn).2.2.2.2), aB E mx 864 (slT txt ta ta j j (tn - 16 - j))] [(0, .ref h), (1, .int (nI j)), (2, .int (nI (tn - 16 - j))), (3, .int (isN ta (opY x y fk fn ta txt j tn).2.2.2.2 (j + (tn - 16 - j)) i)), (4, .int (nI i))] 0 0 43 [] := by
    intro zk
    induction zk with
    | zero =>
      intro i  hi
      obtain rfl : 16 = i := by omega
      refine j_iload hg 4 dM_open_43 rfl ?_
      refine j_bipush hg (v := 16) dM_open_45 (by decide) ?_
      refine j_nge_t hg (tgt := 87) 16 16 rfl rfl (by omega) (by omega) (by omega) dM_open_47 (by decide) ?_
      refine j_aload_n hg 0 dM_open_87 rfl rfl ?_
      refine j_iconst hg (v := 0) dM_open_88 (by decide) ?_
      refine j_put hg (C := RX4) (T := TX4) (N := 21) (ty := .int) (ws' := [ob h 4 [.ref mt, .int 0, .ref mo, .int (nI on), .ref mk, .ref mn, .ref mr, .int (nI rc), .ref mh, .ref mw, .ref mi, .ref mv, .ref mb, .ref ms, .ref mu, .ref mp, .ref mc, .ref mx, .ref mg, .ref ma, .int (nI (slN j (tn - 16 - j)))], aB E mt 800 ta, aB E mo 816 ((opC x fk fn).1), aB E mk 32 fk, aB E mn 12 fn, aI E mv 16 ((opC x fk fn).2.1), aI E mb 16 ((opC x fk fn).2.2.1), aB E ms 64 ((opC x fk fn).2.2.2), aI E mc 16 ((opY x y fk fn ta txt j tn).1), aI E mu 17 ((opY x y fk fn ta txt j tn).2.1), aI E mp 35 ((opY x y fk fn ta txt j tn).2.2.1), aI E ma 19 ((opY x y fk fn ta txt j tn).2.2.2.1), aB E mg 16 ((opY x y fk fn ta txt j tn).2.2.2.2), aB E mx 864 (slT txt ta ta j j (tn - 16 - j))]) inX4 tyX4 tyX4_ok nmX4 0 rfl rfl 1 (by decide) m329 rfl (by decide +kernel) rfl rfl (Nat.le_of_ble_eq_true rfl) rfl dM_open_89 ?_
      refine j_iload_n hg 3 dM_open_92 rfl rfl ?_
      refine j_if_ne hg (tgt := 99) dM_open_93 (by decide) (fun _ => ?_) (fun c => absurd c hd9)
      refine j_aload_n hg 0 dM_open_99 rfl rfl ?_
      refine j_iload_n hg 1 dM_open_100 rfl rfl ?_
      refine j_iload_n hg 2 dM_open_101 rfl rfl ?_
      refine j_aload_n hg 0 dM_open_102 rfl rfl ?_
      refine j_get hg (C := RX4) (T := TX4) (N := 21) inX4 0 rfl rfl 2 (by decide) m330 rfl dM_open_103 ?_
      refine j_callV hg (n := 3) (y := yM_cover) (rm := rm_M_cover) (Ws := (cT yM_cover cM_cover 5 none)) (As := [.int (nI j), .int (nI (tn - 16 - j)), .ref mo]) (rest := []) (wr := [aI E mc 16 ((opY x y fk fn ta txt j tn).1), aI E mu 17 ((opY x y fk fn ta txt j tn).2.1), aI E mp 35 ((opY x y fk fn ta txt j tn).2.2.1), aI E ma 19 ((opY x y fk fn ta txt j tn).2.2.2.1), aB E mg 16 ((opY x y fk fn ta txt j tn).2.2.2.2), aB E mx 864 (slT txt ta ta j j (tn - 16 - j))]) 0 rfl rfl (c_M_cover l E h mt mo mk mn mr mh mw mi mv mb ms mu mp mc mx mg ma 0 on rc (slN j (tn - 16 - j)) fk fn ta (opC x fk fn) j (tn - 16 - j) (by omega)) (gdV m462 m464 ms25 m5 m465) rfl (by decide +kernel) ⟨by decide, by decide⟩ rfl rfl (Nat.le_of_ble_eq_true rfl) ⟨by decide, by decide⟩ [0, 1, 3, 4, 5, 6, 7, 2] [8, 9, 10, 11, 12, 13] rfl rfl (by decide) (by decide) (by decide) dM_open_106 (fun _ _ => ?_)
      show J E 5 g [aI E mc 16 ((opY x y fk fn ta txt j tn).1), aI E mu 17 ((opY x y fk fn ta txt j tn).2.1), aI E mp 35 ((opY x y fk fn ta txt j tn).2.2.1), aI E ma 19 ((opY x y fk fn ta txt j tn).2.2.2.1), aB E mg 16 ((opY x y fk fn ta txt j tn).2.2.2.2), aB E mx 864 (slT txt ta ta j j (tn - 16 - j)), ob h 4 [.ref mt, .int 0, .ref mo, .int (nI on), .ref mk, .ref mn, .ref mr, .int (nI rc), .ref mh, .ref mw, .ref mi, .ref mv, .ref mb, .ref ms, .ref mu, .ref mp, .ref mc, .ref mx, .ref mg, .ref ma, .int (nI (slN j (tn - 16 - j)))], aB E mt 800 ta, aB E mk 32 fk, aB E mn 12 fn, aI E mv 16 ((mcov (opC x fk fn) fk fn ta j (tn - 16 - j)).2.1), aI E mb 16 ((mcov (opC x fk fn) fk fn ta j (tn - 16 - j)).2.2.1), aB E ms 64 ((mcov (opC x fk fn) fk fn ta j (tn - 16 - j)).2.2.2), aB E mo 816 ((mcov (opC x fk fn) fk fn ta j (tn - 16 - j)).1)] [(0, .ref h), (1, .int (nI j)), (2, .int (nI (tn - 16 - j))), (3, .int (isN ta (opY x y fk fn ta txt j tn).2.2.2.2 (j + (tn - 16 - j)) 16)), (4, .int 16)] 0 0 109 []
      refine j_sub [6, 7, 13, 8, 9, 10, 11, 12, 0, 1, 2, 3, 4, 5] (ws' := [ob h 4 [.ref mt, .int 0, .ref mo, .int (nI on), .ref mk, .ref mn, .ref mr, .int (nI rc), .ref mh, .ref mw, .ref mi, .ref mv, .ref mb, .ref ms, .ref mu, .ref mp, .ref mc, .ref mx, .ref mg, .ref ma, .int (nI (slN j (tn - 16 - j)))], aB E mt 800 ta, aB E mo 816 ((mcov (opC x fk fn) fk fn ta j (tn - 16 - j)).1), aB E mk 32 fk, aB E mn 12 fn, aI E mv 16 ((mcov (opC x fk fn) fk fn ta j (tn - 16 - j)).2.1), aI E mb 16 ((mcov (opC x fk fn) fk fn ta j (tn - 16 - j)).2.2.1), aB E ms 64 ((mcov (opC x fk fn) fk fn ta j (tn - 16 - j)).2.2.2), aI E mc 16 ((opY x y fk fn ta txt j tn).1), aI E mu 17 ((opY x y fk fn ta txt j tn).2.1), aI E mp 35 ((opY x y fk fn ta txt j tn).2.2.1), aI E ma 19 ((opY x y fk fn ta txt j tn).2.2.2.1), aB E mg 16 ((opY x y fk fn ta txt j tn).2.2.2.2), aB E mx 864 (slT txt ta ta j j (tn - 16 - j))]) rfl (by decide) ?_
      show J E 5 g [ob h 4 [.ref mt, .int 0, .ref mo, .int (nI on), .ref mk, .ref mn, .ref mr, .int (nI rc), .ref mh, .ref mw, .ref mi, .ref mv, .ref mb, .ref ms, .ref mu, .ref mp, .ref mc, .ref mx, .ref mg, .ref ma, .int (nI (slN j (tn - 16 - j)))], aB E mt 800 ta, aB E mo 816 ((opD x fk fn ta j tn).1), aB E mk 32 fk, aB E mn 12 fn, aI E mv 16 ((opD x fk fn ta j tn).2.1), aI E mb 16 ((opD x fk fn ta j tn).2.2.1), aB E ms 64 ((opD x fk fn ta j tn).2.2.2), aI E mc 16 ((opY x y fk fn ta txt j tn).1), aI E mu 17 ((opY x y fk fn ta txt j tn).2.1), aI E mp 35 ((opY x y fk fn ta txt j tn).2.2.1), aI E ma 19 ((opY x y fk fn ta txt j tn).2.2.2.1), aB E mg 16 ((opY x y fk fn ta txt j tn).2.2.2.2), aB E mx 864 (slT txt ta ta j j (tn - 16 - j))] [(0, .ref h), (1, .int (nI j)), (2, .int (nI (tn - 16 - j))), (3, .int (isN ta (opY x y fk fn ta txt j tn).2.2.2.2 (j + (tn - 16 - j)) 16)), (4, .int 16)] 0 0 109 []
      refine j_aload_n hg 0 dM_open_109 rfl rfl ?_
      refine j_iload_n hg 2 dM_open_110 rfl rfl ?_
      refine j_put hg (C := RX4) (T := TX4) (N := 21) (ty := .int) (ws' := [ob h 4 [.ref mt, .int 0, .ref mo, .int (nI (tn - 16 - j)), .ref mk, .ref mn, .ref mr, .int (nI rc), .ref mh, .ref mw, .ref mi, .ref mv, .ref mb, .ref ms, .ref mu, .ref mp, .ref mc, .ref mx, .ref mg, .ref ma, .int (nI (slN j (tn - 16 - j)))], aB E mt 800 ta, aB E mo 816 ((opD x fk fn ta j tn).1), aB E mk 32 fk, aB E mn 12 fn, aI E mv 16 ((opD x fk fn ta j tn).2.1), aI E mb 16 ((opD x fk fn ta j tn).2.2.1), aB E ms 64 ((opD x fk fn ta j tn).2.2.2), aI E mc 16 ((opY x y fk fn ta txt j tn).1), aI E mu 17 ((opY x y fk fn ta txt j tn).2.1), aI E mp 35 ((opY x y fk fn ta txt j tn).2.2.1), aI E ma 19 ((opY x y fk fn ta txt j tn).2.2.2.1), aB E mg 16 ((opY x y fk fn ta txt j tn).2.2.2.2), aB E mx 864 (slT txt ta ta j j (tn - 16 - j))]) inX4 tyX4 tyX4_ok nmX4 0 rfl rfl 3 (by decide) m331 rfl (by decide +kernel) rfl rfl (Nat.le_of_ble_eq_true rfl) rfl dM_open_111 ?_
      refine j_iload_n hg 2 dM_open_114 rfl rfl ?_
      exact j_iret hg hR rfl () trivial rfl [0, 1, 2, 3, 4, 5, 6, 7, 8, 9, 10, 11, 12, 13] rfl (by decide) (by decide) (by decide) dM_open_115
    | succ zk ih =>
      intro i  hi
      refine j_iload hg 4 dM_open_43 rfl ?_
      refine j_bipush hg (v := 16) dM_open_45 (by decide) ?_
      refine j_nge_f hg (tgt := 87) i 16 rfl rfl (by omega) (by omega) (by omega) dM_open_47 (by decide) ?_
      refine j_iload_n hg 3 dM_open_50 rfl rfl ?_
      refine j_if_eq hg (tgt := 79) dM_open_51 (by decide) (fun hc => ?_) (fun hc => ?_)
      · skip
        refine j_iconst hg (v := 0) dM_open_79 (by decide) ?_
        refine j_topi (show (0 : Int32) = isN ta (opY x y fk fn ta txt j tn).2.2.2.2 (j + (tn - 16 - j)) (i + 1) from by show _ = ite _ _ _; rw [if_neg (fun q => q.1 hc)]) ?_
        refine j_istore_n hg (lv' := [(3, .int (isN ta (opY x y fk fn ta txt j tn).2.2.2.2 (j + (tn - 16 - j)) (i + 1))), (0, .ref h), (1, .int (nI j)), (2, .int (nI (tn - 16 - j))), (4, .int (nI i))]) dM_open_80 rfl (by decide) rfl ?_
        refine j_iinc hg (kq := 4) (v := nI (i + 1)) (lv' := [(4, .int (nI (i + 1))), (3, .int (isN ta (opY x y fk fn ta txt j tn).2.2.2.2 (j + (tn - 16 - j)) (i + 1))), (0, .ref h), (1, .int (nI j)), (2, .int (nI (tn - 16 - j)))]) dM_open_81 rfl (nI_add i 1) (by decide) rfl ?_
        refine j_goto hg (tgt := 43) dM_open_84 (by decide) ?_
        refine j_pick [2, 3, 4, 1, 0] (lv' := [(0, .ref h), (1, .int (nI j)), (2, .int (nI (tn - 16 - j))), (3, .int (isN ta (opY x y fk fn ta txt j tn).2.2.2.2 (j + (tn - 16 - j)) (i + 1))), (4, .int (nI (i + 1)))]) rfl ?_
        exact ih (i + 1) (by omega)
      · skip
        refine j_aload_n hg 0 dM_open_54 rfl rfl ?_
        refine j_get hg (C := RX4) (T := TX4) (N := 21) inX4 0 rfl rfl 0 (by decide) m328 rfl dM_open_55 ?_
        refine j_iload_n hg 1 dM_open_58 rfl rfl ?_
        refine j_iload_n hg 2 dM_open_59 rfl rfl ?_
        refine j_iadd hg (v := nI (j + (tn - 16 - j))) dM_open_60 (nI_add j (tn - 16 - j)) ?_
        refine j_iload hg 4 dM_open_61 rfl ?_
        refine j_iadd hg (v := nI (j + (tn - 16 - j) + i)) dM_open_63 (nI_add (j + (tn - 16 - j)) i) ?_
        refine j_bald hg (v := ta (j + (tn - 16 - j) + i)) 1 (j + (tn - 16 - j) + i) rfl rfl (by omega) (by omega) rfl dM_open_64 ?_
        refine j_aload_n hg 0 dM_open_65 rfl rfl ?_
        refine j_get hg (C := RX4) (T := TX4) (N := 21) inX4 0 rfl rfl 18 (by decide) m346 rfl dM_open_66 ?_
        refine j_iload hg 4 dM_open_69 rfl ?_
        refine j_bald hg (v := ((opY x y fk fn ta txt j tn).2.2.2.2) i) 12 i rfl rfl (by omega) (by omega) rfl dM_open_71 ?_
        refine j_icmp_ne hg (tgt := 79) dM_open_72 (by decide) (fun hd => ?_) (fun hd => ?_)
        · skip
          refine j_iconst hg (v := 0) dM_open_79 (by decide) ?_
          refine j_topi (show (0 : Int32) = isN ta (opY x y fk fn ta txt j tn).2.2.2.2 (j + (tn - 16 - j)) (i + 1) from by show _ = ite _ _ _; rw [if_neg (fun q => hd q.2)]) ?_
          refine j_istore_n hg (lv' := [(3, .int (isN ta (opY x y fk fn ta txt j tn).2.2.2.2 (j + (tn - 16 - j)) (i + 1))), (0, .ref h), (1, .int (nI j)), (2, .int (nI (tn - 16 - j))), (4, .int (nI i))]) dM_open_80 rfl (by decide) rfl ?_
          refine j_iinc hg (kq := 4) (v := nI (i + 1)) (lv' := [(4, .int (nI (i + 1))), (3, .int (isN ta (opY x y fk fn ta txt j tn).2.2.2.2 (j + (tn - 16 - j)) (i + 1))), (0, .ref h), (1, .int (nI j)), (2, .int (nI (tn - 16 - j)))]) dM_open_81 rfl (nI_add i 1) (by decide) rfl ?_
          refine j_goto hg (tgt := 43) dM_open_84 (by decide) ?_
          refine j_pick [2, 3, 4, 1, 0] (lv' := [(0, .ref h), (1, .int (nI j)), (2, .int (nI (tn - 16 - j))), (3, .int (isN ta (opY x y fk fn ta txt j tn).2.2.2.2 (j + (tn - 16 - j)) (i + 1))), (4, .int (nI (i + 1)))]) rfl ?_
          exact ih (i + 1) (by omega)
        · skip
          refine j_iconst hg (v := 1) dM_open_75 (by decide) ?_
          refine j_goto hg (tgt := 80) dM_open_76 (by decide) ?_
          refine j_topi (show (1 : Int32) = isN ta (opY x y fk fn ta txt j tn).2.2.2.2 (j + (tn - 16 - j)) (i + 1) from by show _ = ite _ _ _; rw [if_pos ⟨hc, hd⟩]) ?_
          refine j_istore_n hg (lv' := [(3, .int (isN ta (opY x y fk fn ta txt j tn).2.2.2.2 (j + (tn - 16 - j)) (i + 1))), (0, .ref h), (1, .int (nI j)), (2, .int (nI (tn - 16 - j))), (4, .int (nI i))]) dM_open_80 rfl (by decide) rfl ?_
          refine j_iinc hg (kq := 4) (v := nI (i + 1)) (lv' := [(4, .int (nI (i + 1))), (3, .int (isN ta (opY x y fk fn ta txt j tn).2.2.2.2 (j + (tn - 16 - j)) (i + 1))), (0, .ref h), (1, .int (nI j)), (2, .int (nI (tn - 16 - j)))]) dM_open_81 rfl (nI_add i 1) (by decide) rfl ?_
          refine j_goto hg (tgt := 43) dM_open_84 (by decide) ?_
          refine j_pick [2, 3, 4, 1, 0] (lv' := [(0, .ref h), (1, .int (nI j)), (2, .int (nI (tn - 16 - j))), (3, .int (isN ta (opY x y fk fn ta txt j tn).2.2.2.2 (j + (tn - 16 - j)) (i + 1))), (4, .int (nI (i + 1)))]) rfl ?_
          exact ih (i + 1) (by omega)
  exact loop (16) 0 (by omega)

def rm_M_digest : Room := { frames := 3, cells := 0, slots := 0, locals := 90 }
set_option maxHeartbeats 1000000 in
set_option maxRecDepth 100000 in
theorem c_M_digest (l : Launch) (E : Ev) (h mt mo mk mn mr mh mw mi mv mb ms mu mp mc mx mg ma : Nat) (tn on rc tx : Nat) (ta o row : Nat → Int32) (x : H2) (h1 : tn ≤ 800) : MC E l yM_digest (cT yM_digest cM_digest 1 (some .int)) rm_M_digest [.ref h] [ob h 4 [.ref mt, .int (nI tn), .ref mo, .int (nI on), .ref mk, .ref mn, .ref mr, .int (nI rc), .ref mh, .ref mw, .ref mi, .ref mv, .ref mb, .ref ms, .ref mu, .ref mp, .ref mc, .ref mx, .ref mg, .ref ma, .int (nI tx)], aB E mt 800 ta, aB E mo 816 o, aB E mr 1024 row, aL E mh 8 x.1, aL E mw 64 x.2] Unit (fun _ => True) (fun _ => some (.int 32)) (fun _ => [ob h 4 [.ref mt, .int 0, .ref mo, .int 32, .ref mk, .ref mn, .ref mr, .int (nI (0 + tn)), .ref mh, .ref mw, .ref mi, .ref mv, .ref mb, .ref ms, .ref mu, .ref mp, .ref mc, .ref mx, .ref mg, .ref ma, .int (nI tx)], aB E mt 800 ta, aB E mo 816 (toF o (hsF x (addR row ta 0 0 tn) (0 + tn)).1 0 32), aB E mr 1024 (addR row ta 0 0 tn), aL E mh 8 ((hsF x (addR row ta 0 0 tn) (0 + tn)).1), aL E mw 64 ((hsF x (addR row ta 0 0 tn) (0 + tn)).2)]) := by
  refine MC.of (cc := cM_digest) (nL := 1) (ret := (some .int)) (by decide) rfl cT_in (Nat.le_of_ble_eq_true rfl) (fun g hg hR => ?_)
  show J E 1 g [ob h 4 [.ref mt, .int (nI tn), .ref mo, .int (nI on), .ref mk, .ref mn, .ref mr, .int (nI rc), .ref mh, .ref mw, .ref mi, .ref mv, .ref mb, .ref ms, .ref mu, .ref mp, .ref mc, .ref mx, .ref mg, .ref ma, .int (nI tx)], aB E mt 800 ta, aB E mo 816 o, aB E mr 1024 row, aL E mh 8 x.1, aL E mw 64 x.2] [(0, .ref h)] 0 0 0 []
  refine j_aload_n hg 0 dM_digest_0 rfl rfl ?_
  refine j_iconst hg (v := 0) dM_digest_1 (by decide) ?_
  refine j_put hg (C := RX4) (T := TX4) (N := 21) (ty := .int) (ws' := [ob h 4 [.ref mt, .int (nI tn), .ref mo, .int (nI on), .ref mk, .ref mn, .ref mr, .int 0, .ref mh, .ref mw, .ref mi, .ref mv, .ref mb, .ref ms, .ref mu, .ref mp, .ref mc, .ref mx, .ref mg, .ref ma, .int (nI tx)], aB E mt 800 ta, aB E mo 816 o, aB E mr 1024 row, aL E mh 8 x.1, aL E mw 64 x.2]) inX4 tyX4 tyX4_ok nmX4 0 rfl rfl 7 (by decide) m335 rfl (by decide +kernel) rfl rfl (Nat.le_of_ble_eq_true rfl) rfl dM_digest_2 ?_
  refine j_aload_n hg 0 dM_digest_5 rfl rfl ?_
  refine j_aload_n hg 0 dM_digest_6 rfl rfl ?_
  refine j_get hg (C := RX4) (T := TX4) (N := 21) inX4 0 rfl rfl 0 (by decide) m328 rfl dM_digest_7 ?_
  refine j_iconst hg (v := 0) dM_digest_10 (by decide) ?_
  refine j_aload_n hg 0 dM_digest_11 rfl rfl ?_
  refine j_get hg (C := RX4) (T := TX4) (N := 21) inX4 0 rfl rfl 1 (by decide) m329 rfl dM_digest_12 ?_
  refine j_callV hg (n := 3) (y := yM_addArr) (rm := rm_M_addArr) (Ws := (cT yM_addArr cM_addArr 5 none)) (As := [.ref mt, .int 0, .int (nI tn)]) (rest := []) (wr := [aB E mo 816 o, aL E mh 8 x.1, aL E mw 64 x.2]) 0 rfl rfl (c_M_addArr l E h mt mo mk mn mr mh mw mi mv mb ms mu mp mc mx mg ma tn on 0 tx mt 800 row ta 0 tn (by omega) (by omega) (by omega)) (gdV m482 m484 ms28 m5 m485) rfl (by decide +kernel) ⟨by decide, by decide⟩ rfl rfl (Nat.le_of_ble_eq_true rfl) ⟨by decide, by decide⟩ [0, 3, 1] [2, 4, 5] rfl rfl (by decide) (by decide) (by decide) dM_digest_15 (fun _ _ => ?_)
  show J E 1 g [aB E mo 816 o, aL E mh 8 x.1, aL E mw 64 x.2, ob h 4 [.ref mt, .int (nI tn), .ref mo, .int (nI on), .ref mk, .ref mn, .ref mr, .int (nI (0 + tn)), .ref mh, .ref mw, .ref mi, .ref mv, .ref mb, .ref ms, .ref mu, .ref mp, .ref mc, .ref mx, .ref mg, .ref ma, .int (nI tx)], aB E mr 1024 (addR row ta 0 0 tn), aB E mt 800 ta] [(0, .ref h)] 0 0 18 []
  refine j_aload_n hg 0 dM_digest_18 rfl rfl ?_
  refine j_aload_n hg 0 dM_digest_19 rfl rfl ?_
  refine j_get hg (C := RX4) (T := TX4) (N := 21) inX4 3 rfl rfl 2 (by decide) m330 rfl dM_digest_20 ?_
  refine j_iconst hg (v := 0) dM_digest_23 (by decide) ?_
  refine j_callV hg (n := 2) (y := yM_hashTo) (rm := rm_M_hashTo) (Ws := (cT yM_hashTo cM_hashTo 5 none)) (As := [.ref mo, .int 0]) (rest := []) (wr := [aB E mt 800 ta]) 0 rfl rfl (c_M_hashTo l E h mt mo mk mn mr mh mw mi mv mb ms mu mp mc mx mg ma tn on (0 + tn) tx mo 816 (addR row ta 0 0 tn) o x 0 (by omega) (by omega) (by omega)) (gdV m490 m492 ms30 m5 m493) rfl (by decide +kernel) ⟨by decide, by decide⟩ rfl rfl (Nat.le_of_ble_eq_true rfl) ⟨by decide, by decide⟩ [3, 4, 1, 2, 0] [5] rfl rfl (by decide) (by decide) (by decide) dM_digest_24 (fun _ _ => ?_)
  show J E 1 g [aB E mt 800 ta, ob h 4 [.ref mt, .int (nI tn), .ref mo, .int (nI on), .ref mk, .ref mn, .ref mr, .int (nI (0 + tn)), .ref mh, .ref mw, .ref mi, .ref mv, .ref mb, .ref ms, .ref mu, .ref mp, .ref mc, .ref mx, .ref mg, .ref ma, .int (nI tx)], aB E mr 1024 (addR row ta 0 0 tn), aL E mh 8 ((hsF x (addR row ta 0 0 tn) (0 + tn)).1), aL E mw 64 ((hsF x (addR row ta 0 0 tn) (0 + tn)).2), aB E mo 816 (toF o (hsF x (addR row ta 0 0 tn) (0 + tn)).1 0 32)] [(0, .ref h)] 0 0 27 []
  refine j_aload_n hg 0 dM_digest_27 rfl rfl ?_
  refine j_iconst hg (v := 0) dM_digest_28 (by decide) ?_
  refine j_put hg (C := RX4) (T := TX4) (N := 21) (ty := .int) (ws' := [aB E mt 800 ta, ob h 4 [.ref mt, .int 0, .ref mo, .int (nI on), .ref mk, .ref mn, .ref mr, .int (nI (0 + tn)), .ref mh, .ref mw, .ref mi, .ref mv, .ref mb, .ref ms, .ref mu, .ref mp, .ref mc, .ref mx, .ref mg, .ref ma, .int (nI tx)], aB E mr 1024 (addR row ta 0 0 tn), aL E mh 8 ((hsF x (addR row ta 0 0 tn) (0 + tn)).1), aL E mw 64 ((hsF x (addR row ta 0 0 tn) (0 + tn)).2), aB E mo 816 (toF o (hsF x (addR row ta 0 0 tn) (0 + tn)).1 0 32)]) inX4 tyX4 tyX4_ok nmX4 1 rfl rfl 1 (by decide) m329 rfl (by decide +kernel) rfl rfl (Nat.le_of_ble_eq_true rfl) rfl dM_digest_29 ?_
  refine j_aload_n hg 0 dM_digest_32 rfl rfl ?_
  refine j_bipush hg (v := 32) dM_digest_33 (by decide) ?_
  refine j_put hg (C := RX4) (T := TX4) (N := 21) (ty := .int) (ws' := [aB E mt 800 ta, ob h 4 [.ref mt, .int 0, .ref mo, .int 32, .ref mk, .ref mn, .ref mr, .int (nI (0 + tn)), .ref mh, .ref mw, .ref mi, .ref mv, .ref mb, .ref ms, .ref mu, .ref mp, .ref mc, .ref mx, .ref mg, .ref ma, .int (nI tx)], aB E mr 1024 (addR row ta 0 0 tn), aL E mh 8 ((hsF x (addR row ta 0 0 tn) (0 + tn)).1), aL E mw 64 ((hsF x (addR row ta 0 0 tn) (0 + tn)).2), aB E mo 816 (toF o (hsF x (addR row ta 0 0 tn) (0 + tn)).1 0 32)]) inX4 tyX4 tyX4_ok nmX4 1 rfl rfl 3 (by decide) m331 rfl (by decide +kernel) rfl rfl (Nat.le_of_ble_eq_true rfl) rfl dM_digest_35 ?_
  refine j_bipush hg (v := 32) dM_digest_38 (by decide) ?_
  exact j_iret hg hR rfl () trivial rfl [1, 0, 5, 2, 3, 4] rfl (by decide) (by decide) (by decide) dM_digest_40

def rm_M_mac : Room := { frames := 3, cells := 0, slots := 0, locals := 90 }
set_option maxHeartbeats 1000000 in
set_option maxRecDepth 100000 in
theorem c_M_mac (l : Launch) (E : Ev) (h mt mo mk mn mr mh mw mi mv mb ms mu mp mc mx mg ma : Nat) (tn on rc tx : Nat) (fk ta o row one_ : Nat → Int32) (x : H2) (h1 : tn ≤ 800) : MC E l yM_mac (cT yM_mac cM_mac 2 (some .int)) rm_M_mac [.ref h] [ob h 4 [.ref mt, .int (nI tn), .ref mo, .int (nI on), .ref mk, .ref mn, .ref mr, .int (nI rc), .ref mh, .ref mw, .ref mi, .ref mv, .ref mb, .ref ms, .ref mu, .ref mp, .ref mc, .ref mx, .ref mg, .ref ma, .int (nI tx)], aB E mt 800 ta, aB E mo 816 o, aB E mr 1024 row, aL E mh 8 x.1, aL E mw 64 x.2, aB E mk 32 fk, aB E mi 32 one_] Unit (fun _ => True) (fun _ => some (.int 32)) (fun _ => [ob h 4 [.ref mt, .int 0, .ref mo, .int 32, .ref mk, .ref mn, .ref mr, .int (nI (0 + 64 + 32)), .ref mh, .ref mw, .ref mi, .ref mv, .ref mb, .ref ms, .ref mu, .ref mp, .ref mc, .ref mx, .ref mg, .ref ma, .int (nI tx)], aB E mt 800 ta, aB E mo 816 (toF o (hsF (hsF x (addR (mkF row fk 54 64) ta (0 + 64) 0 tn) (0 + 64 + tn)) (addR (mkF (addR (mkF row fk 54 64) ta (0 + 64) 0 tn) fk 92 64) (toF one_ (hsF x (addR (mkF row fk 54 64) ta (0 + 64) 0 tn) (0 + 64 + tn)).1 0 32) (0 + 64) 0 32) (0 + 64 + 32)).1 0 32), aB E mr 1024 (addR (mkF (addR (mkF row fk 54 64) ta (0 + 64) 0 tn) fk 92 64) (toF one_ (hsF x (addR (mkF row fk 54 64) ta (0 + 64) 0 tn) (0 + 64 + tn)).1 0 32) (0 + 64) 0 32), aL E mh 8 ((hsF (hsF x (addR (mkF row fk 54 64) ta (0 + 64) 0 tn) (0 + 64 + tn)) (addR (mkF (addR (mkF row fk 54 64) ta (0 + 64) 0 tn) fk 92 64) (toF one_ (hsF x (addR (mkF row fk 54 64) ta (0 + 64) 0 tn) (0 + 64 + tn)).1 0 32) (0 + 64) 0 32) (0 + 64 + 32)).1), aL E mw 64 ((hsF (hsF x (addR (mkF row fk 54 64) ta (0 + 64) 0 tn) (0 + 64 + tn)) (addR (mkF (addR (mkF row fk 54 64) ta (0 + 64) 0 tn) fk 92 64) (toF one_ (hsF x (addR (mkF row fk 54 64) ta (0 + 64) 0 tn) (0 + 64 + tn)).1 0 32) (0 + 64) 0 32) (0 + 64 + 32)).2), aB E mk 32 fk, aB E mi 32 (toF one_ (hsF x (addR (mkF row fk 54 64) ta (0 + 64) 0 tn) (0 + 64 + tn)).1 0 32)]) := by
  refine MC.of (cc := cM_mac) (nL := 2) (ret := (some .int)) (by decide) rfl cT_in (Nat.le_of_ble_eq_true rfl) (fun g hg hR => ?_)
  show J E 2 g [ob h 4 [.ref mt, .int (nI tn), .ref mo, .int (nI on), .ref mk, .ref mn, .ref mr, .int (nI rc), .ref mh, .ref mw, .ref mi, .ref mv, .ref mb, .ref ms, .ref mu, .ref mp, .ref mc, .ref mx, .ref mg, .ref ma, .int (nI tx)], aB E mt 800 ta, aB E mo 816 o, aB E mr 1024 row, aL E mh 8 x.1, aL E mw 64 x.2, aB E mk 32 fk, aB E mi 32 one_] [(0, .ref h)] 0 0 0 []
  refine j_aload_n hg 0 dM_mac_0 rfl rfl ?_
  refine j_iconst hg (v := 0) dM_mac_1 (by decide) ?_
  refine j_put hg (C := RX4) (T := TX4) (N := 21) (ty := .int) (ws' := [ob h 4 [.ref mt, .int (nI tn), .ref mo, .int (nI on), .ref mk, .ref mn, .ref mr, .int 0, .ref mh, .ref mw, .ref mi, .ref mv, .ref mb, .ref ms, .ref mu, .ref mp, .ref mc, .ref mx, .ref mg, .ref ma, .int (nI tx)], aB E mt 800 ta, aB E mo 816 o, aB E mr 1024 row, aL E mh 8 x.1, aL E mw 64 x.2, aB E mk 32 fk, aB E mi 32 one_]) inX4 tyX4 tyX4_ok nmX4 0 rfl rfl 7 (by decide) m335 rfl (by decide +kernel) rfl rfl (Nat.le_of_ble_eq_true rfl) rfl dM_mac_2 ?_
  refine j_iconst hg (v := 0) dM_mac_5 (by decide) ?_
  refine j_istore_n hg (lv' := [(1, .int 0), (0, .ref h)]) dM_mac_6 rfl (by decide) rfl ?_
  refine j_pick [1, 0] (lv' := [(0, .ref h), (1, .int 0)]) rfl ?_
  have loop : ∀ (zk i : Nat), i + zk = 64 → J E 2 g [ob h 4 [.ref mt, .int (nI tn), .ref mo, .int (nI on), .ref mk, .ref mn, .ref mr, .int (nI (0 + i)), .ref mh, .ref mw, .ref mi, .ref mv, .ref mb, .ref ms, .ref mu, .ref mp, .ref mc, .ref mx, .ref mg, .ref ma, .int (nI tx)], aB E mt 800 ta, aB E mo 816 o, aB E mr 1024 (mkF row fk 54 i), aL E mh 8 x.1, aL E mw 64 x.2, aB E mk 32 fk, aB E mi 32 one_] [(0, .ref h), (1, .int (nI i))] 0 0 7 [] := by
    intro zk
    induction zk with
    | zero =>
      intro i  hi
      obtain rfl : 64 = i := by omega
      refine j_iload_n hg 1 dM_mac_7 rfl rfl ?_
      refine j_bipush hg (v := 64) dM_mac_8 (by decide) ?_
      refine j_nge_t hg (tgt := 42) 64 64 rfl rfl (by omega) (by omega) (by omega) dM_mac_10 (by decide) ?_
      refine j_aload_n hg 0 dM_mac_42 rfl rfl ?_
      refine j_aload_n hg 0 dM_mac_43 rfl rfl ?_
      refine j_get hg (C := RX4) (T := TX4) (N := 21) inX4 0 rfl rfl 0 (by decide) m328 rfl dM_mac_44 ?_
      refine j_iconst hg (v := 0) dM_mac_47 (by decide) ?_
      refine j_aload_n hg 0 dM_mac_48 rfl rfl ?_
      refine j_get hg (C := RX4) (T := TX4) (N := 21) inX4 0 rfl rfl 1 (by decide) m329 rfl dM_mac_49 ?_
      refine j_callV hg (n := 3) (y := yM_addArr) (rm := rm_M_addArr) (Ws := (cT yM_addArr cM_addArr 5 none)) (As := [.ref mt, .int 0, .int (nI tn)]) (rest := []) (wr := [aB E mo 816 o, aL E mh 8 x.1, aL E mw 64 x.2, aB E mk 32 fk, aB E mi 32 one_]) 0 rfl rfl (c_M_addArr l E h mt mo mk mn mr mh mw mi mv mb ms mu mp mc mx mg ma tn on (0 + 64) tx mt 800 (mkF row fk 54 64) ta 0 tn (by omega) (by omega) (by omega)) (gdV m482 m484 ms28 m5 m485) rfl (by decide +kernel) ⟨by decide, by decide⟩ rfl rfl (Nat.le_of_ble_eq_true rfl) ⟨by decide, by decide⟩ [0, 3, 1] [2, 4, 5, 6, 7] rfl rfl (by decide) (by decide) (by decide) dM_mac_52 (fun _ _ => ?_)
      show J E 2 g [aB E mo 816 o, aL E mh 8 x.1, aL E mw 64 x.2, aB E mk 32 fk, aB E mi 32 one_, ob h 4 [.ref mt, .int (nI tn), .ref mo, .int (nI on), .ref mk, .ref mn, .ref mr, .int (nI (0 + 64 + tn)), .ref mh, .ref mw, .ref mi, .ref mv, .ref mb, .ref ms, .ref mu, .ref mp, .ref mc, .ref mx, .ref mg, .ref ma, .int (nI tx)], aB E mr 1024 (addR (mkF row fk 54 64) ta (0 + 64) 0 tn), aB E mt 800 ta] [(0, .ref h), (1, .int 64)] 0 0 55 []
      refine j_aload_n hg 0 dM_mac_55 rfl rfl ?_
      refine j_aload_n hg 0 dM_mac_56 rfl rfl ?_
      refine j_get hg (C := RX4) (T := TX4) (N := 21) inX4 5 rfl rfl 10 (by decide) m338 rfl dM_mac_57 ?_
      refine j_iconst hg (v := 0) dM_mac_60 (by decide) ?_
      refine j_callV hg (n := 2) (y := yM_hashTo) (rm := rm_M_hashTo) (Ws := (cT yM_hashTo cM_hashTo 5 none)) (As := [.ref mi, .int 0]) (rest := []) (wr := [aB E mo 816 o, aB E mk 32 fk, aB E mt 800 ta]) 0 rfl rfl (c_M_hashTo l E h mt mo mk mn mr mh mw mi mv mb ms mu mp mc mx mg ma tn on (0 + 64 + tn) tx mi 32 (addR (mkF row fk 54 64) ta (0 + 64) 0 tn) one_ x 0 (by omega) (by omega) (by omega)) (gdV m490 m492 ms30 m5 m493) rfl (by decide +kernel) ⟨by decide, by decide⟩ rfl rfl (Nat.le_of_ble_eq_true rfl) ⟨by decide, by decide⟩ [5, 6, 1, 2, 4] [0, 3, 7] rfl rfl (by decide) (by decide) (by decide) dM_mac_61 (fun _ _ => ?_)
      show J E 2 g [aB E mo 816 o, aB E mk 32 fk, aB E mt 800 ta, ob h 4 [.ref mt, .int (nI tn), .ref mo, .int (nI on), .ref mk, .ref mn, .ref mr, .int (nI (0 + 64 + tn)), .ref mh, .ref mw, .ref mi, .ref mv, .ref mb, .ref ms, .ref mu, .ref mp, .ref mc, .ref mx, .ref mg, .ref ma, .int (nI tx)], aB E mr 1024 (addR (mkF row fk 54 64) ta (0 + 64) 0 tn), aL E mh 8 ((hsF x (addR (mkF row fk 54 64) ta (0 + 64) 0 tn) (0 + 64 + tn)).1), aL E mw 64 ((hsF x (addR (mkF row fk 54 64) ta (0 + 64) 0 tn) (0 + 64 + tn)).2), aB E mi 32 (toF one_ (hsF x (addR (mkF row fk 54 64) ta (0 + 64) 0 tn) (0 + 64 + tn)).1 0 32)] [(0, .ref h), (1, .int 64)] 0 0 64 []
      refine j_aload_n hg 0 dM_mac_64 rfl rfl ?_
      refine j_iconst hg (v := 0) dM_mac_65 (by decide) ?_
      refine j_put hg (C := RX4) (T := TX4) (N := 21) (ty := .int) (ws' := [aB E mo 816 o, aB E mk 32 fk, aB E mt 800 ta, ob h 4 [.ref mt, .int (nI tn), .ref mo, .int (nI on), .ref mk, .ref mn, .ref mr, .int 0, .ref mh, .ref mw, .ref mi, .ref mv, .ref mb, .ref ms, .ref mu, .ref mp, .ref mc, .ref mx, .ref mg, .ref ma, .int (nI tx)], aB E mr 1024 (addR (mkF row fk 54 64) ta (0 + 64) 0 tn), aL E mh 8 ((hsF x (addR (mkF row fk 54 64) ta (0 + 64) 0 tn) (0 + 64 + tn)).1), aL E mw 64 ((hsF x (addR (mkF row fk 54 64) ta (0 + 64) 0 tn) (0 + 64 + tn)).2), aB E mi 32 (toF one_ (hsF x (addR (mkF row fk 54 64) ta (0 + 64) 0 tn) (0 + 64 + tn)).1 0 32)]) inX4 tyX4 tyX4_ok nmX4 3 rfl rfl 7 (by decide) m335 rfl (by decide +kernel) rfl rfl (Nat.le_of_ble_eq_true rfl) rfl dM_mac_66 ?_
      refine j_iconst hg (v := 0) dM_mac_69 (by decide) ?_
      refine j_istore_n hg (lv' := [(1, .int 0), (0, .ref h)]) dM_mac_70 rfl (by decide) rfl ?_
      refine j_sub [3, 2, 0, 4, 5, 6, 1, 7] (ws' := [ob h 4 [.ref mt, .int (nI tn), .ref mo, .int (nI on), .ref mk, .ref mn, .ref mr, .int 0, .ref mh, .ref mw, .ref mi, .ref mv, .ref mb, .ref ms, .ref mu, .ref mp, .ref mc, .ref mx, .ref mg, .ref ma, .int (nI tx)], aB E mt 800 ta, aB E mo 816 o, aB E mr 1024 (addR (mkF row fk 54 64) ta (0 + 64) 0 tn), aL E mh 8 ((hsF x (addR (mkF row fk 54 64) ta (0 + 64) 0 tn) (0 + 64 + tn)).1), aL E mw 64 ((hsF x (addR (mkF row fk 54 64) ta (0 + 64) 0 tn) (0 + 64 + tn)).2), aB E mk 32 fk, aB E mi 32 (toF one_ (hsF x (addR (mkF row fk 54 64) ta (0 + 64) 0 tn) (0 + 64 + tn)).1 0 32)]) rfl (by decide) ?_
      refine j_pick [1, 0] (lv' := [(0, .ref h), (1, .int 0)]) rfl ?_
      have loop2 : ∀ (zk i : Nat), i + zk = 64 → J E 2 g [ob h 4 [.ref mt, .int (nI tn), .ref mo, .int (nI on), .ref mk, .ref mn, .ref mr, .int (nI (0 + i)), .ref mh, .ref mw, .ref mi, .ref mv, .ref mb, .ref ms, .ref mu, .ref mp, .ref mc, .ref mx, .ref mg, .ref ma, .int (nI tx)], aB E mt 800 ta, aB E mo 816 o, aB E mr 1024 (mkF (addR (mkF row fk 54 64) ta (0 + 64) 0 tn) fk 92 i), aL E mh 8 ((hsF x (addR (mkF row fk 54 64) ta (0 + 64) 0 tn) (0 + 64 + tn)).1), aL E mw 64 ((hsF x (addR (mkF row fk 54 64) ta (0 + 64) 0 tn) (0 + 64 + tn)).2), aB E mk 32 fk, aB E mi 32 (toF one_ (hsF x (addR (mkF row fk 54 64) ta (0 + 64) 0 tn) (0 + 64 + tn)).1 0 32)] [(0, .ref h), (1, .int (nI i))] 0 0 71 [] := by
        intro zk
        induction zk with
        | zero =>
          intro i  hi
          obtain rfl : 64 = i := by omega
          refine j_iload_n hg 1 dM_mac_71 rfl rfl ?_
          refine j_bipush hg (v := 64) dM_mac_72 (by decide) ?_
          refine j_nge_t hg (tgt := 106) 64 64 rfl rfl (by omega) (by omega) (by omega) dM_mac_74 (by decide) ?_
          refine j_aload_n hg 0 dM_mac_106 rfl rfl ?_
          refine j_aload_n hg 0 dM_mac_107 rfl rfl ?_
          refine j_get hg (C := RX4) (T := TX4) (N := 21) inX4 0 rfl rfl 10 (by decide) m338 rfl dM_mac_108 ?_
          refine j_iconst hg (v := 0) dM_mac_111 (by decide) ?_
          refine j_bipush hg (v := 32) dM_mac_112 (by decide) ?_
          refine j_callV hg (n := 3) (y := yM_addArr) (rm := rm_M_addArr) (Ws := (cT yM_addArr cM_addArr 5 none)) (As := [.ref mi, .int 0, .int 32]) (rest := []) (wr := [aB E mt 800 ta, aB E mo 816 o, aL E mh 8 ((hsF x (addR (mkF row fk 54 64) ta (0 + 64) 0 tn) (0 + 64 + tn)).1), aL E mw 64 ((hsF x (addR (mkF row fk 54 64) ta (0 + 64) 0 tn) (0 + 64 + tn)).2), aB E mk 32 fk]) 0 rfl rfl (c_M_addArr l E h mt mo mk mn mr mh mw mi mv mb ms mu mp mc mx mg ma tn on (0 + 64) tx mi 32 (mkF (addR (mkF row fk 54 64) ta (0 + 64) 0 tn) fk 92 64) (toF one_ (hsF x (addR (mkF row fk 54 64) ta (0 + 64) 0 tn) (0 + 64 + tn)).1 0 32) 0 32 (by omega) (by omega) (by omega)) (gdV m482 m484 ms28 m5 m485) rfl (by decide +kernel) ⟨by decide, by decide⟩ rfl rfl (Nat.le_of_ble_eq_true rfl) ⟨by decide, by decide⟩ [0, 3, 7] [1, 2, 4, 5, 6] rfl rfl (by decide) (by decide) (by decide) dM_mac_114 (fun _ _ => ?_)
          show J E 2 g [aB E mt 800 ta, aB E mo 816 o, aL E mh 8 ((hsF x (addR (mkF row fk 54 64) ta (0 + 64) 0 tn) (0 + 64 + tn)).1), aL E mw 64 ((hsF x (addR (mkF row fk 54 64) ta (0 + 64) 0 tn) (0 + 64 + tn)).2), aB E mk 32 fk, ob h 4 [.ref mt, .int (nI tn), .ref mo, .int (nI on), .ref mk, .ref mn, .ref mr, .int (nI (0 + 64 + 32)), .ref mh, .ref mw, .ref mi, .ref mv, .ref mb, .ref ms, .ref mu, .ref mp, .ref mc, .ref mx, .ref mg, .ref ma, .int (nI tx)], aB E mr 1024 (addR (mkF (addR (mkF row fk 54 64) ta (0 + 64) 0 tn) fk 92 64) (toF one_ (hsF x (addR (mkF row fk 54 64) ta (0 + 64) 0 tn) (0 + 64 + tn)).1 0 32) (0 + 64) 0 32), aB E mi 32 (toF one_ (hsF x (addR (mkF row fk 54 64) ta (0 + 64) 0 tn) (0 + 64 + tn)).1 0 32)] [(0, .ref h), (1, .int 64)] 0 0 117 []
          refine j_aload_n hg 0 dM_mac_117 rfl rfl ?_
          refine j_aload_n hg 0 dM_mac_118 rfl rfl ?_
          refine j_get hg (C := RX4) (T := TX4) (N := 21) inX4 5 rfl rfl 2 (by decide) m330 rfl dM_mac_119 ?_
          refine j_iconst hg (v := 0) dM_mac_122 (by decide) ?_
          refine j_callV hg (n := 2) (y := yM_hashTo) (rm := rm_M_hashTo) (Ws := (cT yM_hashTo cM_hashTo 5 none)) (As := [.ref mo, .int 0]) (rest := []) (wr := [aB E mt 800 ta, aB E mk 32 fk, aB E mi 32 (toF one_ (hsF x (addR (mkF row fk 54 64) ta (0 + 64) 0 tn) (0 + 64 + tn)).1 0 32)]) 0 rfl rfl (c_M_hashTo l E h mt mo mk mn mr mh mw mi mv mb ms mu mp mc mx mg ma tn on (0 + 64 + 32) tx mo 816 (addR (mkF (addR (mkF row fk 54 64) ta (0 + 64) 0 tn) fk 92 64) (toF one_ (hsF x (addR (mkF row fk 54 64) ta (0 + 64) 0 tn) (0 + 64 + tn)).1 0 32) (0 + 64) 0 32) o ((hsF x (addR (mkF row fk 54 64) ta (0 + 64) 0 tn) (0 + 64 + tn))) 0 (by omega) (by omega) (by omega)) (gdV m490 m492 ms30 m5 m493) rfl (by decide +kernel) ⟨by decide, by decide⟩ rfl rfl (Nat.le_of_ble_eq_true rfl) ⟨by decide, by decide⟩ [5, 6, 2, 3, 1] [0, 4, 7] rfl rfl (by decide) (by decide) (by decide) dM_mac_123 (fun _ _ => ?_)
          show J E 2 g [aB E mt 800 ta, aB E mk 32 fk, aB E mi 32 (toF one_ (hsF x (addR (mkF row fk 54 64) ta (0 + 64) 0 tn) (0 + 64 + tn)).1 0 32), ob h 4 [.ref mt, .int (nI tn), .ref mo, .int (nI on), .ref mk, .ref mn, .ref mr, .int (nI (0 + 64 + 32)), .ref mh, .ref mw, .ref mi, .ref mv, .ref mb, .ref ms, .ref mu, .ref mp, .ref mc, .ref mx, .ref mg, .ref ma, .int (nI tx)], aB E mr 1024 (addR (mkF (addR (mkF row fk 54 64) ta (0 + 64) 0 tn) fk 92 64) (toF one_ (hsF x (addR (mkF row fk 54 64) ta (0 + 64) 0 tn) (0 + 64 + tn)).1 0 32) (0 + 64) 0 32), aL E mh 8 ((hsF ((hsF x (addR (mkF row fk 54 64) ta (0 + 64) 0 tn) (0 + 64 + tn))) (addR (mkF (addR (mkF row fk 54 64) ta (0 + 64) 0 tn) fk 92 64) (toF one_ (hsF x (addR (mkF row fk 54 64) ta (0 + 64) 0 tn) (0 + 64 + tn)).1 0 32) (0 + 64) 0 32) (0 + 64 + 32)).1), aL E mw 64 ((hsF ((hsF x (addR (mkF row fk 54 64) ta (0 + 64) 0 tn) (0 + 64 + tn))) (addR (mkF (addR (mkF row fk 54 64) ta (0 + 64) 0 tn) fk 92 64) (toF one_ (hsF x (addR (mkF row fk 54 64) ta (0 + 64) 0 tn) (0 + 64 + tn)).1 0 32) (0 + 64) 0 32) (0 + 64 + 32)).2), aB E mo 816 (toF o (hsF ((hsF x (addR (mkF row fk 54 64) ta (0 + 64) 0 tn) (0 + 64 + tn))) (addR (mkF (addR (mkF row fk 54 64) ta (0 + 64) 0 tn) fk 92 64) (toF one_ (hsF x (addR (mkF row fk 54 64) ta (0 + 64) 0 tn) (0 + 64 + tn)).1 0 32) (0 + 64) 0 32) (0 + 64 + 32)).1 0 32)] [(0, .ref h), (1, .int 64)] 0 0 126 []
          refine j_aload_n hg 0 dM_mac_126 rfl rfl ?_
          refine j_iconst hg (v := 0) dM_mac_127 (by decide) ?_
          refine j_put hg (C := RX4) (T := TX4) (N := 21) (ty := .int) (ws' := [aB E mt 800 ta, aB E mk 32 fk, aB E mi 32 (toF one_ (hsF x (addR (mkF row fk 54 64) ta (0 + 64) 0 tn) (0 + 64 + tn)).1 0 32), ob h 4 [.ref mt, .int 0, .ref mo, .int (nI on), .ref mk, .ref mn, .ref mr, .int (nI (0 + 64 + 32)), .ref mh, .ref mw, .ref mi, .ref mv, .ref mb, .ref ms, .ref mu, .ref mp, .ref mc, .ref mx, .ref mg, .ref ma, .int (nI tx)], aB E mr 1024 (addR (mkF (addR (mkF row fk 54 64) ta (0 + 64) 0 tn) fk 92 64) (toF one_ (hsF x (addR (mkF row fk 54 64) ta (0 + 64) 0 tn) (0 + 64 + tn)).1 0 32) (0 + 64) 0 32), aL E mh 8 ((hsF ((hsF x (addR (mkF row fk 54 64) ta (0 + 64) 0 tn) (0 + 64 + tn))) (addR (mkF (addR (mkF row fk 54 64) ta (0 + 64) 0 tn) fk 92 64) (toF one_ (hsF x (addR (mkF row fk 54 64) ta (0 + 64) 0 tn) (0 + 64 + tn)).1 0 32) (0 + 64) 0 32) (0 + 64 + 32)).1), aL E mw 64 ((hsF ((hsF x (addR (mkF row fk 54 64) ta (0 + 64) 0 tn) (0 + 64 + tn))) (addR (mkF (addR (mkF row fk 54 64) ta (0 + 64) 0 tn) fk 92 64) (toF one_ (hsF x (addR (mkF row fk 54 64) ta (0 + 64) 0 tn) (0 + 64 + tn)).1 0 32) (0 + 64) 0 32) (0 + 64 + 32)).2), aB E mo 816 (toF o (hsF ((hsF x (addR (mkF row fk 54 64) ta (0 + 64) 0 tn) (0 + 64 + tn))) (addR (mkF (addR (mkF row fk 54 64) ta (0 + 64) 0 tn) fk 92 64) (toF one_ (hsF x (addR (mkF row fk 54 64) ta (0 + 64) 0 tn) (0 + 64 + tn)).1 0 32) (0 + 64) 0 32) (0 + 64 + 32)).1 0 32)]) inX4 tyX4 tyX4_ok nmX4 3 rfl rfl 1 (by decide) m329 rfl (by decide +kernel) rfl rfl (Nat.le_of_ble_eq_true rfl) rfl dM_mac_128 ?_
          refine j_aload_n hg 0 dM_mac_131 rfl rfl ?_
          refine j_bipush hg (v := 32) dM_mac_132 (by decide) ?_
          refine j_put hg (C := RX4) (T := TX4) (N := 21) (ty := .int) (ws' := [aB E mt 800 ta, aB E mk 32 fk, aB E mi 32 (toF one_ (hsF x (addR (mkF row fk 54 64) ta (0 + 64) 0 tn) (0 + 64 + tn)).1 0 32), ob h 4 [.ref mt, .int 0, .ref mo, .int 32, .ref mk, .ref mn, .ref mr, .int (nI (0 + 64 + 32)), .ref mh, .ref mw, .ref mi, .ref mv, .ref mb, .ref ms, .ref mu, .ref mp, .ref mc, .ref mx, .ref mg, .ref ma, .int (nI tx)], aB E mr 1024 (addR (mkF (addR (mkF row fk 54 64) ta (0 + 64) 0 tn) fk 92 64) (toF one_ (hsF x (addR (mkF row fk 54 64) ta (0 + 64) 0 tn) (0 + 64 + tn)).1 0 32) (0 + 64) 0 32), aL E mh 8 ((hsF ((hsF x (addR (mkF row fk 54 64) ta (0 + 64) 0 tn) (0 + 64 + tn))) (addR (mkF (addR (mkF row fk 54 64) ta (0 + 64) 0 tn) fk 92 64) (toF one_ (hsF x (addR (mkF row fk 54 64) ta (0 + 64) 0 tn) (0 + 64 + tn)).1 0 32) (0 + 64) 0 32) (0 + 64 + 32)).1), aL E mw 64 ((hsF ((hsF x (addR (mkF row fk 54 64) ta (0 + 64) 0 tn) (0 + 64 + tn))) (addR (mkF (addR (mkF row fk 54 64) ta (0 + 64) 0 tn) fk 92 64) (toF one_ (hsF x (addR (mkF row fk 54 64) ta (0 + 64) 0 tn) (0 + 64 + tn)).1 0 32) (0 + 64) 0 32) (0 + 64 + 32)).2), aB E mo 816 (toF o (hsF ((hsF x (addR (mkF row fk 54 64) ta (0 + 64) 0 tn) (0 + 64 + tn))) (addR (mkF (addR (mkF row fk 54 64) ta (0 + 64) 0 tn) fk 92 64) (toF one_ (hsF x (addR (mkF row fk 54 64) ta (0 + 64) 0 tn) (0 + 64 + tn)).1 0 32) (0 + 64) 0 32) (0 + 64 + 32)).1 0 32)]) inX4 tyX4 tyX4_ok nmX4 3 rfl rfl 3 (by decide) m331 rfl (by decide +kernel) rfl rfl (Nat.le_of_ble_eq_true rfl) rfl dM_mac_134 ?_
          refine j_bipush hg (v := 32) dM_mac_137 (by decide) ?_
          exact j_iret hg hR rfl () trivial rfl [3, 0, 7, 4, 5, 6, 1, 2] rfl (by decide) (by decide) (by decide) dM_mac_139
        | succ zk ih =>
          intro i  hi
          refine j_iload_n hg 1 dM_mac_71 rfl rfl ?_
          refine j_bipush hg (v := 64) dM_mac_72 (by decide) ?_
          refine j_nge_f hg (tgt := 106) i 64 rfl rfl (by omega) (by omega) (by omega) dM_mac_74 (by decide) ?_
          refine j_aload_n hg 0 dM_mac_77 rfl rfl ?_
          refine j_iload_n hg 1 dM_mac_78 rfl rfl ?_
          refine j_bipush hg (v := 32) dM_mac_79 (by decide) ?_
          refine j_nge hg (tgt := 93) i 32 rfl rfl (by omega) (by omega) dM_mac_81 (by decide) (fun hc => ?_) (fun hc => ?_)
          · skip
            refine j_iconst hg (v := 0) dM_mac_93 (by decide) ?_
            refine j_topi (show (0 : Int32) = (if i < 32 then fk i else 0) from (if_neg (by omega)).symm) ?_
            refine j_bipush hg (v := 92) dM_mac_94 (by decide) ?_
            refine j_ixor hg (v := (if i < 32 then fk i else 0) ^^^ 92) dM_mac_96 rfl ?_
            refine j_callV hg (n := 1) (y := yM_add) (rm := rm_M_add) (Ws := (cT yM_add cM_add 2 none)) (As := [.int ((if i < 32 then fk i else 0) ^^^ 92)]) (rest := []) (wr := [aB E mt 800 ta, aB E mo 816 o, aL E mh 8 ((hsF x (addR (mkF row fk 54 64) ta (0 + 64) 0 tn) (0 + 64 + tn)).1), aL E mw 64 ((hsF x (addR (mkF row fk 54 64) ta (0 + 64) 0 tn) (0 + 64 + tn)).2), aB E mk 32 fk, aB E mi 32 (toF one_ (hsF x (addR (mkF row fk 54 64) ta (0 + 64) 0 tn) (0 + 64 + tn)).1 0 32)]) 0 rfl rfl (c_M_add l E h mt mo mk mn mr mh mw mi mv mb ms mu mp mc mx mg ma tn on (0 + i) tx (mkF (addR (mkF row fk 54 64) ta (0 + 64) 0 tn) fk 92 i) ((if i < 32 then fk i else 0) ^^^ 92) (by omega)) (gdV m486 m488 ms29 m5 m489) rfl (by decide +kernel) ⟨by decide, by decide⟩ rfl rfl (Nat.le_of_ble_eq_true rfl) ⟨by decide, by decide⟩ [0, 3] [1, 2, 4, 5, 6, 7] rfl rfl (by decide) (by decide) (by decide) dM_mac_97 (fun _ _ => ?_)
            show J E 2 g [aB E mt 800 ta, aB E mo 816 o, aL E mh 8 ((hsF x (addR (mkF row fk 54 64) ta (0 + 64) 0 tn) (0 + 64 + tn)).1), aL E mw 64 ((hsF x (addR (mkF row fk 54 64) ta (0 + 64) 0 tn) (0 + 64 + tn)).2), aB E mk 32 fk, aB E mi 32 (toF one_ (hsF x (addR (mkF row fk 54 64) ta (0 + 64) 0 tn) (0 + 64 + tn)).1 0 32), ob h 4 [.ref mt, .int (nI tn), .ref mo, .int (nI on), .ref mk, .ref mn, .ref mr, .int (nI (0 + i + 1)), .ref mh, .ref mw, .ref mi, .ref mv, .ref mb, .ref ms, .ref mu, .ref mp, .ref mc, .ref mx, .ref mg, .ref ma, .int (nI tx)], aB E mr 1024 (upd (mkF (addR (mkF row fk 54 64) ta (0 + 64) 0 tn) fk 92 i) (0 + i) (sB ((if i < 32 then fk i else 0) ^^^ 92)))] [(0, .ref h), (1, .int (nI i))] 0 0 100 []
            refine j_iinc hg (kq := 1) (v := nI (i + 1)) (lv' := [(1, .int (nI (i + 1))), (0, .ref h)]) dM_mac_100 rfl (nI_add i 1) (by decide) rfl ?_
            refine j_goto hg (tgt := 71) dM_mac_103 (by decide) ?_
            refine j_sub [6, 0, 1, 7, 2, 3, 4, 5] (ws' := [ob h 4 [.ref mt, .int (nI tn), .ref mo, .int (nI on), .ref mk, .ref mn, .ref mr, .int (nI (0 + i + 1)), .ref mh, .ref mw, .ref mi, .ref mv, .ref mb, .ref ms, .ref mu, .ref mp, .ref mc, .ref mx, .ref mg, .ref ma, .int (nI tx)], aB E mt 800 ta, aB E mo 816 o, aB E mr 1024 (upd (mkF (addR (mkF row fk 54 64) ta (0 + 64) 0 tn) fk 92 i) (0 + i) (sB ((if i < 32 then fk i else 0) ^^^ 92))), aL E mh 8 ((hsF x (addR (mkF row fk 54 64) ta (0 + 64) 0 tn) (0 + 64 + tn)).1), aL E mw 64 ((hsF x (addR (mkF row fk 54 64) ta (0 + 64) 0 tn) (0 + 64 + tn)).2), aB E mk 32 fk, aB E mi 32 (toF one_ (hsF x (addR (mkF row fk 54 64) ta (0 + 64) 0 tn) (0 + 64 + tn)).1 0 32)]) rfl (by decide) ?_
            refine j_pick [1, 0] (lv' := [(0, .ref h), (1, .int (nI (i + 1)))]) rfl ?_
            exact ih (i + 1) (by omega)
          · skip
            refine j_aload_n hg 0 dM_mac_84 rfl rfl ?_
            refine j_get hg (C := RX4) (T := TX4) (N := 21) inX4 0 rfl rfl 4 (by decide) m332 rfl dM_mac_85 ?_
            refine j_iload_n hg 1 dM_mac_88 rfl rfl ?_
            refine j_bald hg (v := fk i) 6 i rfl rfl (by omega) (by omega) rfl dM_mac_89 ?_
            refine j_goto hg (tgt := 94) dM_mac_90 (by decide) ?_
            refine j_topi (show (fk i : Int32) = (if i < 32 then fk i else 0) from (if_pos (by omega)).symm) ?_
            refine j_bipush hg (v := 92) dM_mac_94 (by decide) ?_
            refine j_ixor hg (v := (if i < 32 then fk i else 0) ^^^ 92) dM_mac_96 rfl ?_
            refine j_callV hg (n := 1) (y := yM_add) (rm := rm_M_add) (Ws := (cT yM_add cM_add 2 none)) (As := [.int ((if i < 32 then fk i else 0) ^^^ 92)]) (rest := []) (wr := [aB E mt 800 ta, aB E mo 816 o, aL E mh 8 ((hsF x (addR (mkF row fk 54 64) ta (0 + 64) 0 tn) (0 + 64 + tn)).1), aL E mw 64 ((hsF x (addR (mkF row fk 54 64) ta (0 + 64) 0 tn) (0 + 64 + tn)).2), aB E mk 32 fk, aB E mi 32 (toF one_ (hsF x (addR (mkF row fk 54 64) ta (0 + 64) 0 tn) (0 + 64 + tn)).1 0 32)]) 0 rfl rfl (c_M_add l E h mt mo mk mn mr mh mw mi mv mb ms mu mp mc mx mg ma tn on (0 + i) tx (mkF (addR (mkF row fk 54 64) ta (0 + 64) 0 tn) fk 92 i) ((if i < 32 then fk i else 0) ^^^ 92) (by omega)) (gdV m486 m488 ms29 m5 m489) rfl (by decide +kernel) ⟨by decide, by decide⟩ rfl rfl (Nat.le_of_ble_eq_true rfl) ⟨by decide, by decide⟩ [0, 3] [1, 2, 4, 5, 6, 7] rfl rfl (by decide) (by decide) (by decide) dM_mac_97 (fun _ _ => ?_)
            show J E 2 g [aB E mt 800 ta, aB E mo 816 o, aL E mh 8 ((hsF x (addR (mkF row fk 54 64) ta (0 + 64) 0 tn) (0 + 64 + tn)).1), aL E mw 64 ((hsF x (addR (mkF row fk 54 64) ta (0 + 64) 0 tn) (0 + 64 + tn)).2), aB E mk 32 fk, aB E mi 32 (toF one_ (hsF x (addR (mkF row fk 54 64) ta (0 + 64) 0 tn) (0 + 64 + tn)).1 0 32), ob h 4 [.ref mt, .int (nI tn), .ref mo, .int (nI on), .ref mk, .ref mn, .ref mr, .int (nI (0 + i + 1)), .ref mh, .ref mw, .ref mi, .ref mv, .ref mb, .ref ms, .ref mu, .ref mp, .ref mc, .ref mx, .ref mg, .ref ma, .int (nI tx)], aB E mr 1024 (upd (mkF (addR (mkF row fk 54 64) ta (0 + 64) 0 tn) fk 92 i) (0 + i) (sB ((if i < 32 then fk i else 0) ^^^ 92)))] [(0, .ref h), (1, .int (nI i))] 0 0 100 []
            refine j_iinc hg (kq := 1) (v := nI (i + 1)) (lv' := [(1, .int (nI (i + 1))), (0, .ref h)]) dM_mac_100 rfl (nI_add i 1) (by decide) rfl ?_
            refine j_goto hg (tgt := 71) dM_mac_103 (by decide) ?_
            refine j_sub [6, 0, 1, 7, 2, 3, 4, 5] (ws' := [ob h 4 [.ref mt, .int (nI tn), .ref mo, .int (nI on), .ref mk, .ref mn, .ref mr, .int (nI (0 + i + 1)), .ref mh, .ref mw, .ref mi, .ref mv, .ref mb, .ref ms, .ref mu, .ref mp, .ref mc, .ref mx, .ref mg, .ref ma, .int (nI tx)], aB E mt 800 ta, aB E mo 816 o, aB E mr 1024 (upd (mkF (addR (mkF row fk 54 64) ta (0 + 64) 0 tn) fk 92 i) (0 + i) (sB ((if i < 32 then fk i else 0) ^^^ 92))), aL E mh 8 ((hsF x (addR (mkF row fk 54 64) ta (0 + 64) 0 tn) (0 + 64 + tn)).1), aL E mw 64 ((hsF x (addR (mkF row fk 54 64) ta (0 + 64) 0 tn) (0 + 64 + tn)).2), aB E mk 32 fk, aB E mi 32 (toF one_ (hsF x (addR (mkF row fk 54 64) ta (0 + 64) 0 tn) (0 + 64 + tn)).1 0 32)]) rfl (by decide) ?_
            refine j_pick [1, 0] (lv' := [(0, .ref h), (1, .int (nI (i + 1)))]) rfl ?_
            exact ih (i + 1) (by omega)
      exact loop2 (64) 0 (by omega)
    | succ zk ih =>
      intro i  hi
      refine j_iload_n hg 1 dM_mac_7 rfl rfl ?_
      refine j_bipush hg (v := 64) dM_mac_8 (by decide) ?_
      refine j_nge_f hg (tgt := 42) i 64 rfl rfl (by omega) (by omega) (by omega) dM_mac_10 (by decide) ?_
      refine j_aload_n hg 0 dM_mac_13 rfl rfl ?_
      refine j_iload_n hg 1 dM_mac_14 rfl rfl ?_
      refine j_bipush hg (v := 32) dM_mac_15 (by decide) ?_
      refine j_nge hg (tgt := 29) i 32 rfl rfl (by omega) (by omega) dM_mac_17 (by decide) (fun hc => ?_) (fun hc => ?_)
      · skip
        refine j_iconst hg (v := 0) dM_mac_29 (by decide) ?_
        refine j_topi (show (0 : Int32) = (if i < 32 then fk i else 0) from (if_neg (by omega)).symm) ?_
        refine j_bipush hg (v := 54) dM_mac_30 (by decide) ?_
        refine j_ixor hg (v := (if i < 32 then fk i else 0) ^^^ 54) dM_mac_32 rfl ?_
        refine j_callV hg (n := 1) (y := yM_add) (rm := rm_M_add) (Ws := (cT yM_add cM_add 2 none)) (As := [.int ((if i < 32 then fk i else 0) ^^^ 54)]) (rest := []) (wr := [aB E mt 800 ta, aB E mo 816 o, aL E mh 8 x.1, aL E mw 64 x.2, aB E mk 32 fk, aB E mi 32 one_]) 0 rfl rfl (c_M_add l E h mt mo mk mn mr mh mw mi mv mb ms mu mp mc mx mg ma tn on (0 + i) tx (mkF row fk 54 i) ((if i < 32 then fk i else 0) ^^^ 54) (by omega)) (gdV m486 m488 ms29 m5 m489) rfl (by decide +kernel) ⟨by decide, by decide⟩ rfl rfl (Nat.le_of_ble_eq_true rfl) ⟨by decide, by decide⟩ [0, 3] [1, 2, 4, 5, 6, 7] rfl rfl (by decide) (by decide) (by decide) dM_mac_33 (fun _ _ => ?_)
        show J E 2 g [aB E mt 800 ta, aB E mo 816 o, aL E mh 8 x.1, aL E mw 64 x.2, aB E mk 32 fk, aB E mi 32 one_, ob h 4 [.ref mt, .int (nI tn), .ref mo, .int (nI on), .ref mk, .ref mn, .ref mr, .int (nI (0 + i + 1)), .ref mh, .ref mw, .ref mi, .ref mv, .ref mb, .ref ms, .ref mu, .ref mp, .ref mc, .ref mx, .ref mg, .ref ma, .int (nI tx)], aB E mr 1024 (upd (mkF row fk 54 i) (0 + i) (sB ((if i < 32 then fk i else 0) ^^^ 54)))] [(0, .ref h), (1, .int (nI i))] 0 0 36 []
        refine j_iinc hg (kq := 1) (v := nI (i + 1)) (lv' := [(1, .int (nI (i + 1))), (0, .ref h)]) dM_mac_36 rfl (nI_add i 1) (by decide) rfl ?_
        refine j_goto hg (tgt := 7) dM_mac_39 (by decide) ?_
        refine j_sub [6, 0, 1, 7, 2, 3, 4, 5] (ws' := [ob h 4 [.ref mt, .int (nI tn), .ref mo, .int (nI on), .ref mk, .ref mn, .ref mr, .int (nI (0 + i + 1)), .ref mh, .ref mw, .ref mi, .ref mv, .ref mb, .ref ms, .ref mu, .ref mp, .ref mc, .ref mx, .ref mg, .ref ma, .int (nI tx)], aB E mt 800 ta, aB E mo 816 o, aB E mr 1024 (upd (mkF row fk 54 i) (0 + i) (sB ((if i < 32 then fk i else 0) ^^^ 54))), aL E mh 8 x.1, aL E mw 64 x.2, aB E mk 32 fk, aB E mi 32 one_]) rfl (by decide) ?_
        refine j_pick [1, 0] (lv' := [(0, .ref h), (1, .int (nI (i + 1)))]) rfl ?_
        exact ih (i + 1) (by omega)
      · skip
        refine j_aload_n hg 0 dM_mac_20 rfl rfl ?_
        refine j_get hg (C := RX4) (T := TX4) (N := 21) inX4 0 rfl rfl 4 (by decide) m332 rfl dM_mac_21 ?_
        refine j_iload_n hg 1 dM_mac_24 rfl rfl ?_
        refine j_bald hg (v := fk i) 6 i rfl rfl (by omega) (by omega) rfl dM_mac_25 ?_
        refine j_goto hg (tgt := 30) dM_mac_26 (by decide) ?_
        refine j_topi (show (fk i : Int32) = (if i < 32 then fk i else 0) from (if_pos (by omega)).symm) ?_
        refine j_bipush hg (v := 54) dM_mac_30 (by decide) ?_
        refine j_ixor hg (v := (if i < 32 then fk i else 0) ^^^ 54) dM_mac_32 rfl ?_
        refine j_callV hg (n := 1) (y := yM_add) (rm := rm_M_add) (Ws := (cT yM_add cM_add 2 none)) (As := [.int ((if i < 32 then fk i else 0) ^^^ 54)]) (rest := []) (wr := [aB E mt 800 ta, aB E mo 816 o, aL E mh 8 x.1, aL E mw 64 x.2, aB E mk 32 fk, aB E mi 32 one_]) 0 rfl rfl (c_M_add l E h mt mo mk mn mr mh mw mi mv mb ms mu mp mc mx mg ma tn on (0 + i) tx (mkF row fk 54 i) ((if i < 32 then fk i else 0) ^^^ 54) (by omega)) (gdV m486 m488 ms29 m5 m489) rfl (by decide +kernel) ⟨by decide, by decide⟩ rfl rfl (Nat.le_of_ble_eq_true rfl) ⟨by decide, by decide⟩ [0, 3] [1, 2, 4, 5, 6, 7] rfl rfl (by decide) (by decide) (by decide) dM_mac_33 (fun _ _ => ?_)
        show J E 2 g [aB E mt 800 ta, aB E mo 816 o, aL E mh 8 x.1, aL E mw 64 x.2, aB E mk 32 fk, aB E mi 32 one_, ob h 4 [.ref mt, .int (nI tn), .ref mo, .int (nI on), .ref mk, .ref mn, .ref mr, .int (nI (0 + i + 1)), .ref mh, .ref mw, .ref mi, .ref mv, .ref mb, .ref ms, .ref mu, .ref mp, .ref mc, .ref mx, .ref mg, .ref ma, .int (nI tx)], aB E mr 1024 (upd (mkF row fk 54 i) (0 + i) (sB ((if i < 32 then fk i else 0) ^^^ 54)))] [(0, .ref h), (1, .int (nI i))] 0 0 36 []
        refine j_iinc hg (kq := 1) (v := nI (i + 1)) (lv' := [(1, .int (nI (i + 1))), (0, .ref h)]) dM_mac_36 rfl (nI_add i 1) (by decide) rfl ?_
        refine j_goto hg (tgt := 7) dM_mac_39 (by decide) ?_
        refine j_sub [6, 0, 1, 7, 2, 3, 4, 5] (ws' := [ob h 4 [.ref mt, .int (nI tn), .ref mo, .int (nI on), .ref mk, .ref mn, .ref mr, .int (nI (0 + i + 1)), .ref mh, .ref mw, .ref mi, .ref mv, .ref mb, .ref ms, .ref mu, .ref mp, .ref mc, .ref mx, .ref mg, .ref ma, .int (nI tx)], aB E mt 800 ta, aB E mo 816 o, aB E mr 1024 (upd (mkF row fk 54 i) (0 + i) (sB ((if i < 32 then fk i else 0) ^^^ 54))), aL E mh 8 x.1, aL E mw 64 x.2, aB E mk 32 fk, aB E mi 32 one_]) rfl (by decide) ?_
        refine j_pick [1, 0] (lv' := [(0, .ref h), (1, .int (nI (i + 1)))]) rfl ?_
        exact ih (i + 1) (by omega)
  exact loop (64) 0 (by omega)

def rm_M_octet : Room := { frames := 0, cells := 0, slots := 0, locals := 0 }
set_option maxHeartbeats 1000000 in
set_option maxRecDepth 100000 in
theorem c_M_octet_m (l : Launch) (E : Ev) (h mt mo mk mn mr mh mw mi mv mb ms mu mp mc mx mg ma : Nat) (tn on rc tx : Nat) : MC E l yM_octet (cT yM_octet cM_octet 2 (some .int)) rm_M_octet [.ref h, .int (-1)] [ob h 4 [.ref mt, .int (nI tn), .ref mo, .int (nI on), .ref mk, .ref mn, .ref mr, .int (nI rc), .ref mh, .ref mw, .ref mi, .ref mv, .ref mb, .ref ms, .ref mu, .ref mp, .ref mc, .ref mx, .ref mg, .ref ma, .int (nI tx)]] Unit (fun _ => True) (fun _ => some (.int (nI on))) (fun _ => [ob h 4 [.ref mt, .int (nI tn), .ref mo, .int (nI on), .ref mk, .ref mn, .ref mr, .int (nI rc), .ref mh, .ref mw, .ref mi, .ref mv, .ref mb, .ref ms, .ref mu, .ref mp, .ref mc, .ref mx, .ref mg, .ref ma, .int (nI tx)]]) := by
  refine MC.of (cc := cM_octet) (nL := 2) (ret := (some .int)) (by decide) rfl cT_in (Nat.le_of_ble_eq_true rfl) (fun g hg hR => ?_)
  show J E 2 g [ob h 4 [.ref mt, .int (nI tn), .ref mo, .int (nI on), .ref mk, .ref mn, .ref mr, .int (nI rc), .ref mh, .ref mw, .ref mi, .ref mv, .ref mb, .ref ms, .ref mu, .ref mp, .ref mc, .ref mx, .ref mg, .ref ma, .int (nI tx)]] [(0, .ref h), (1, .int (-1))] 0 0 0 []
  refine j_iload_n hg 1 dM_octet_0 rfl rfl ?_
  refine j_iconst hg (v := -1) dM_octet_1 (by decide) ?_
  refine j_icmp_ne hg (tgt := 10) dM_octet_2 (by decide) (fun c => absurd rfl c) (fun _ => ?_)
  refine j_aload_n hg 0 dM_octet_5 rfl rfl ?_
  refine j_get hg (C := RX4) (T := TX4) (N := 21) inX4 0 rfl rfl 3 (by decide) m331 rfl dM_octet_6 ?_
  exact j_iret hg hR rfl () trivial rfl [0] rfl (by decide) (by decide) (by decide) dM_octet_9

set_option maxHeartbeats 1000000 in
set_option maxRecDepth 100000 in
theorem c_M_octet_n (l : Launch) (E : Ev) (h mt mo mk mn mr mh mw mi mv mb ms mu mp mc mx mg ma : Nat) (tn on rc tx : Nat) (n : Int32) (hm : ¬ n = -1) (hn : rb n on = none) (ho : on < 2147483648) : MC E l yM_octet (cT yM_octet cM_octet 2 (some .int)) rm_M_octet [.ref h, .int n] [ob h 4 [.ref mt, .int (nI tn), .ref mo, .int (nI on), .ref mk, .ref mn, .ref mr, .int (nI rc), .ref mh, .ref mw, .ref mi, .ref mv, .ref mb, .ref ms, .ref mu, .ref mp, .ref mc, .ref mx, .ref mg, .ref ma, .int (nI tx)]] Unit (fun _ => True) (fun _ => some (.int (-2))) (fun _ => [ob h 4 [.ref mt, .int (nI tn), .ref mo, .int (nI on), .ref mk, .ref mn, .ref mr, .int (nI rc), .ref mh, .ref mw, .ref mi, .ref mv, .ref mb, .ref ms, .ref mu, .ref mp, .ref mc, .ref mx, .ref mg, .ref ma, .int (nI tx)]]) := by
  refine MC.of (cc := cM_octet) (nL := 2) (ret := (some .int)) (by decide) rfl cT_in (Nat.le_of_ble_eq_true rfl) (fun g hg hR => ?_)
  show J E 2 g [ob h 4 [.ref mt, .int (nI tn), .ref mo, .int (nI on), .ref mk, .ref mn, .ref mr, .int (nI rc), .ref mh, .ref mw, .ref mi, .ref mv, .ref mb, .ref ms, .ref mu, .ref mp, .ref mc, .ref mx, .ref mg, .ref ma, .int (nI tx)]] [(0, .ref h), (1, .int n)] 0 0 0 []
  refine j_iload_n hg 1 dM_octet_0 rfl rfl ?_
  refine j_iconst hg (v := -1) dM_octet_1 (by decide) ?_
  refine j_icmp_ne hg (tgt := 10) dM_octet_2 (by decide) (fun _ => ?_) (fun c => absurd c hm)
  refine j_iload_n hg 1 dM_octet_10 rfl rfl ?_
  refine j_if_lt hg (tgt := 22) dM_octet_11 (by decide) (fun hc => ?_) (fun hc => ?_)
  · skip
    refine j_bipush hg (v := -2) dM_octet_22 (by decide) ?_
    refine j_goto hg (tgt := 37) dM_octet_24 (by decide) ?_
    exact j_iret hg hR rfl () trivial rfl [0] rfl (by decide) (by decide) (by decide) dM_octet_37
  · skip
    obtain ⟨j, hj, rfl⟩ := nI_of hc
    refine j_iload_n hg 1 dM_octet_14 rfl rfl ?_
    refine j_aload_n hg 0 dM_octet_15 rfl rfl ?_
    refine j_get hg (C := RX4) (T := TX4) (N := 21) inX4 0 rfl rfl 3 (by decide) m331 rfl dM_octet_16 ?_
    refine j_nlt_f hg (tgt := 27) j on rfl rfl (by omega) (by omega) (rb_le hj hn) dM_octet_19 (by decide) ?_
    refine j_bipush hg (v := -2) dM_octet_22 (by decide) ?_
    refine j_goto hg (tgt := 37) dM_octet_24 (by decide) ?_
    exact j_iret hg hR rfl () trivial rfl [0] rfl (by decide) (by decide) (by decide) dM_octet_37

set_option maxHeartbeats 1000000 in
set_option maxRecDepth 100000 in
theorem c_M_octet_y (l : Launch) (E : Ev) (h mt mo mk mn mr mh mw mi mv mb ms mu mp mc mx mg ma : Nat) (tn on rc tx : Nat) (o : Nat → Int32) (j : Nat) (hj : j < on) (ho : on ≤ 816) : MC E l yM_octet (cT yM_octet cM_octet 2 (some .int)) rm_M_octet [.ref h, .int (nI j)] [ob h 4 [.ref mt, .int (nI tn), .ref mo, .int (nI on), .ref mk, .ref mn, .ref mr, .int (nI rc), .ref mh, .ref mw, .ref mi, .ref mv, .ref mb, .ref ms, .ref mu, .ref mp, .ref mc, .ref mx, .ref mg, .ref ma, .int (nI tx)], aB E mo 816 o] Unit (fun _ => True) (fun _ => some (.int (o j &&& 255))) (fun _ => [ob h 4 [.ref mt, .int (nI tn), .ref mo, .int (nI on), .ref mk, .ref mn, .ref mr, .int (nI rc), .ref mh, .ref mw, .ref mi, .ref mv, .ref mb, .ref ms, .ref mu, .ref mp, .ref mc, .ref mx, .ref mg, .ref ma, .int (nI tx)], aB E mo 816 o]) := by
  refine MC.of (cc := cM_octet) (nL := 2) (ret := (some .int)) (by decide) rfl cT_in (Nat.le_of_ble_eq_true rfl) (fun g hg hR => ?_)
  show J E 2 g [ob h 4 [.ref mt, .int (nI tn), .ref mo, .int (nI on), .ref mk, .ref mn, .ref mr, .int (nI rc), .ref mh, .ref mw, .ref mi, .ref mv, .ref mb, .ref ms, .ref mu, .ref mp, .ref mc, .ref mx, .ref mg, .ref ma, .int (nI tx)], aB E mo 816 o] [(0, .ref h), (1, .int (nI j))] 0 0 0 []
  refine j_iload_n hg 1 dM_octet_0 rfl rfl ?_
  refine j_iconst hg (v := -1) dM_octet_1 (by decide) ?_
  refine j_icmp_ne hg (tgt := 10) dM_octet_2 (by decide) (fun _ => ?_) (fun c => absurd c (nI_nm1 (by omega)))
  refine j_iload_n hg 1 dM_octet_10 rfl rfl ?_
  refine j_zlt_f hg (tgt := 22) j rfl (by omega) (by omega) dM_octet_11 (by decide) ?_
  refine j_iload_n hg 1 dM_octet_14 rfl rfl ?_
  refine j_aload_n hg 0 dM_octet_15 rfl rfl ?_
  refine j_get hg (C := RX4) (T := TX4) (N := 21) inX4 0 rfl rfl 3 (by decide) m331 rfl dM_octet_16 ?_
  refine j_nlt_t hg (tgt := 27) j on rfl rfl (by omega) (by omega) (by omega) dM_octet_19 (by decide) ?_
  refine j_aload_n hg 0 dM_octet_27 rfl rfl ?_
  refine j_get hg (C := RX4) (T := TX4) (N := 21) inX4 0 rfl rfl 2 (by decide) m330 rfl dM_octet_28 ?_
  refine j_iload_n hg 1 dM_octet_31 rfl rfl ?_
  refine j_bald hg (v := o j) 1 j rfl rfl (by omega) (by omega) rfl dM_octet_32 ?_
  refine j_sipush hg (v := 255) dM_octet_33 (by decide) ?_
  refine j_iand hg (v := (o j) &&& 255) dM_octet_36 rfl ?_
  exact j_iret hg hR rfl () trivial rfl [0, 1] rfl (by decide) (by decide) (by decide) dM_octet_37
