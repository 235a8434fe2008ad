def rm_P_addBlock : Room := { frames := 2, cells := 0, slots := 0, locals := 51 }
set_option maxHeartbeats 1000000 in
set_option maxRecDepth 100000 in
theorem c_P_addBlock (l : Launch) (E : Ev) (h a1 a2 a3 a4 a5 a6 : Nat) (rr n : Nat) (r : Nat → Int64) (x : TPB) (row : Nat → Int32) (f sz one : Nat) (hb : Byt row) (h1 : f + sz ≤ n) (h2 : sz ≤ 16) (h3 : one ≤ 16) (h4 : n < 2147483648) : MC E l yP_addBlock (cT yP_addBlock cP_addBlock 6 none) rm_P_addBlock [.ref h, .ref rr, .int (nI f), .int (nI sz), .int (nI one)] [ob h 1 [.ref a1, .ref a2, .ref a3, .ref a4, .ref a5, .ref a6], aL E a1 5 r, aL E a2 5 x.1, aL E a3 5 x.2.1, aB E a6 17 x.2.2, aB E rr n row] Unit (fun _ => True) (fun _ => none) (fun _ => [ob h 1 [.ref a1, .ref a2, .ref a3, .ref a4, .ref a5, .ref a6], aL E a1 5 r, aL E a2 5 ((abkF r x row f sz one).1), aL E a3 5 ((abkF r x row f sz one).2.1), aB E a6 17 ((abkF r x row f sz one).2.2), aB E rr n row]) := by
  refine MC.of (cc := cP_addBlock) (nL := 6) (ret := none) (by decide) rfl cT_in (Nat.le_of_ble_eq_true rfl) (fun g hg hR => ?_)
  show J E 6 g [ob h 1 [.ref a1, .ref a2, .ref a3, .ref a4, .ref a5, .ref a6], aL E a1 5 r, aL E a2 5 x.1, aL E a3 5 x.2.1, aB E a6 17 x.2.2, aB E rr n row] [(0, .ref h), (1, .ref rr), (2, .int (nI f)), (3, .int (nI sz)), (4, .int (nI one))] 0 0 0 []
  refine j_aload_n hg 0 dP_addBlock_0 rfl rfl ?_
  refine j_get hg (C := RX1) (T := TX1) (N := 6) inX1 0 rfl rfl 5 (by decide) m43 rfl dP_addBlock_1 ?_
  refine j_iconst hg (v := 0) dP_addBlock_4 (by decide) ?_
  refine j_callX hg (n := 2) (y := yA_fill) (rm := rm_A_fill) (Ws := (cT yA_fill cA_fill 4 none)) (As := [.ref a6, .int 0]) (rest := []) (wr := [ob h 1 [.ref a1, .ref a2, .ref a3, .ref a4, .ref a5, .ref a6], aL E a1 5 r, aL E a2 5 x.1, aL E a3 5 x.2.1, aB E rr n row]) (c_A_fill l E a6 17 x.2.2 0 (by decide) (by omega)) (gdX m219 m220 m8 m221) rfl (by decide +kernel) ⟨by decide, by decide⟩ rfl rfl (Nat.le_of_ble_eq_true rfl) ⟨by decide, by decide⟩ [4] [0, 1, 2, 3, 5] rfl rfl (by decide) (by decide) (by decide) dP_addBlock_5 (fun _ _ => ?_)
  show J E 6 g [ob h 1 [.ref a1, .ref a2, .ref a3, .ref a4, .ref a5, .ref a6], aL E a1 5 r, aL E a2 5 x.1, aL E a3 5 x.2.1, aB E rr n row, aB E a6 17 (filB x.2.2 0 17)] [(0, .ref h), (1, .ref rr), (2, .int (nI f)), (3, .int (nI sz)), (4, .int (nI one))] 0 0 8 []
  refine j_aload_n hg 1 dP_addBlock_8 rfl rfl ?_
  refine j_iload_n hg 2 dP_addBlock_9 rfl rfl ?_
  refine j_aload_n hg 0 dP_addBlock_10 rfl rfl ?_
  refine j_get hg (C := RX1) (T := TX1) (N := 6) inX1 0 rfl rfl 5 (by decide) m43 rfl dP_addBlock_11 ?_
  refine j_iconst hg (v := 0) dP_addBlock_14 (by decide) ?_
  refine j_iload_n hg 3 dP_addBlock_15 rfl rfl ?_
  refine j_copyB hg (ws' := [ob h 1 [.ref a1, .ref a2, .ref a3, .ref a4, .ref a5, .ref a6], aL E a1 5 r, aL E a2 5 x.1, aL E a3 5 x.2.1, aB E rr n row, aB E a6 17 (va_cpy row (filB x.2.2 0 17) f 0 sz)]) 4 5 f 0 sz ⟨m196, m141, m140, m6⟩ rfl rfl rfl rfl rfl (by omega) (by omega) (by omega) (by omega) (fun t _ => hb _) (Nat.le_of_ble_eq_true rfl) (Nat.le_of_ble_eq_true rfl) rfl dP_addBlock_16 ?_
  refine j_aload_n hg 0 dP_addBlock_19 rfl rfl ?_
  refine j_get hg (C := RX1) (T := TX1) (N := 6) inX1 0 rfl rfl 5 (by decide) m43 rfl dP_addBlock_20 ?_
  refine j_iload hg 4 dP_addBlock_23 rfl ?_
  refine j_iconst hg (v := 1) dP_addBlock_25 (by decide) ?_
  refine j_bast hg (ws' := [ob h 1 [.ref a1, .ref a2, .ref a3, .ref a4, .ref a5, .ref a6], aL E a1 5 r, aL E a2 5 x.1, aL E a3 5 x.2.1, aB E rr n row, aB E a6 17 (upd (va_cpy row (filB x.2.2 0 17) f 0 sz) one 1)]) 5 one rfl rfl (by omega) (by omega) (by decide) rfl dP_addBlock_26 ?_
  refine j_iconst hg (v := 0) dP_addBlock_27 (by decide) ?_
  refine j_istore hg (lv' := [(5, .int 0), (0, .ref h), (1, .ref rr), (2, .int (nI f)), (3, .int (nI sz)), (4, .int (nI one))]) dP_addBlock_28 (by decide) rfl ?_
  refine j_sub [0, 1, 2, 3, 5, 4] (ws' := [ob h 1 [.ref a1, .ref a2, .ref a3, .ref a4, .ref a5, .ref a6], aL E a1 5 r, aL E a2 5 x.1, aL E a3 5 x.2.1, aB E a6 17 (upd (va_cpy row (filB x.2.2 0 17) f 0 sz) one 1), aB E rr n row]) rfl (by decide) ?_
  show J E 6 g [ob h 1 [.ref a1, .ref a2, .ref a3, .ref a4, .ref a5, .ref a6], aL E a1 5 r, aL E a2 5 x.1, aL E a3 5 x.2.1, aB E a6 17 (blkF x.2.2 row f sz one), aB E rr n row] [(5, .int 0), (0, .ref h), (1, .ref rr), (2, .int (nI f)), (3, .int (nI sz)), (4, .int (nI one))] 0 0 30 []
  refine j_pick [1, 0] (lv' := [(0, .ref h), (5, .int 0)]) rfl ?_
  have loop : ∀ (zk i : Nat), i + zk = 5 → J E 6 g [ob h 1 [.ref a1, .ref a2, .ref a3, .ref a4, .ref a5, .ref a6], aL E a1 5 r, aL E a2 5 (addp (blkF x.2.2 row f sz one) x.1 i), aL E a3 5 x.2.1, aB E a6 17 (blkF x.2.2 row f sz one), aB E rr n row] [(0, .ref h), (5, .int (nI i))] 0 0 30 [] := by
    intro zk
    induction zk with
    | zero =>
      intro i  hi
      obtain rfl : 5 = i := by omega
      have e := abkF_eq r x row f sz one
      unfold abk0 at e
      rw [e] at hR
      refine j_iload hg 1 dP_addBlock_30 rfl ?_
      refine j_iconst hg (v := 5) dP_addBlock_32 (by decide) ?_
      refine j_nge_t hg (tgt := 58) 5 5 rfl rfl (by omega) (by omega) (by omega) dP_addBlock_33 (by decide) ?_
      refine j_aload_n hg 0 dP_addBlock_58 rfl rfl ?_
      refine j_callV hg (n := 0) (y := yP_multiply) (rm := rm_P_multiply) (Ws := (cT yP_multiply cP_multiply 7 none)) (As := []) (rest := []) (wr := [aB E a6 17 (blkF x.2.2 row f sz one), aB E rr n row]) 0 rfl rfl (c_P_multiply l E h a1 a2 a3 a4 a5 a6 (addp (blkF x.2.2 row f sz one) x.1 5) r x.2.1) (gdV m222 m224 ms8 m3 m225) rfl (by decide +kernel) ⟨by decide, by decide⟩ rfl rfl (Nat.le_of_ble_eq_true rfl) ⟨by decide, by decide⟩ [0, 1, 2, 3] [4, 5] rfl rfl (by decide) (by decide) (by decide) dP_addBlock_59 (fun _ _ => ?_)
      show J E 6 g [aB E a6 17 (blkF x.2.2 row f sz one), aB E rr n row, ob h 1 [.ref a1, .ref a2, .ref a3, .ref a4, .ref a5, .ref a6], aL E a1 5 r, aL E a2 5 (mulT (addp (blkF x.2.2 row f sz one) x.1 5) r x.2.1), aL E a3 5 (mulP (addp (blkF x.2.2 row f sz one) x.1 5) r x.2.1 5)] [(0, .ref h), (5, .int 5)] 0 0 62 []
      exact j_vret hg hR () trivial rfl [2, 3, 4, 5, 0, 1] rfl (by decide) (by decide) (by decide) dP_addBlock_62
    | succ zk ih =>
      intro i  hi
      refine j_iload hg 1 dP_addBlock_30 rfl ?_
      refine j_iconst hg (v := 5) dP_addBlock_32 (by decide) ?_
      refine j_nge_f hg (tgt := 58) i 5 rfl rfl (by omega) (by omega) (by omega) dP_addBlock_33 (by decide) ?_
      refine j_aload_n hg 0 dP_addBlock_36 rfl rfl ?_
      refine j_get hg (C := RX1) (T := TX1) (N := 6) inX1 0 rfl rfl 1 (by decide) m39 rfl dP_addBlock_37 ?_
      refine j_iload hg 1 dP_addBlock_40 rfl ?_
      refine j_dup2_11 hg dP_addBlock_42 rfl rfl ?_
      refine j_lald hg (v := (addp (blkF x.2.2 row f sz one) x.1 i) i) 2 i rfl rfl (by omega) (by omega) rfl dP_addBlock_43 ?_
      refine j_aload_n hg 0 dP_addBlock_44 rfl rfl ?_
      refine j_iload hg 1 dP_addBlock_45 rfl ?_
      refine j_callV hg (n := 1) (y := yP_blockPart) (rm := rm_P_blockPart) (Ws := (cT yP_blockPart cP_blockPart 4 (some .long))) (As := [.int (nI i)]) (rest := [.long ((addp (blkF x.2.2 row f sz one) x.1 i) i), .int (nI i), .ref a2]) (wr := [aL E a1 5 r, aL E a2 5 (addp (blkF x.2.2 row f sz one) x.1 i), aL E a3 5 x.2.1, aB E rr n row]) 0 rfl rfl (c_P_blockPart l E h a1 a2 a3 a4 a5 a6 (blkF x.2.2 row f sz one) i (by omega)) (gdV m201 m203 ms6 m3 m204) rfl (by decide +kernel) ⟨by decide, by decide⟩ rfl rfl (Nat.le_of_ble_eq_true rfl) ⟨by decide, by decide⟩ [0, 4] [1, 2, 3, 5] rfl rfl (by decide) (by decide) (by decide) dP_addBlock_47 (fun _ _ => ?_)
      show J E 6 g [aL E a1 5 r, aL E a2 5 (addp (blkF x.2.2 row f sz one) x.1 i), aL E a3 5 x.2.1, aB E rr n row, ob h 1 [.ref a1, .ref a2, .ref a3, .ref a4, .ref a5, .ref a6], aB E a6 17 (blkF x.2.2 row f sz one)] [(0, .ref h), (5, .int (nI i))] 0 0 50 [.long (bpart (blkF x.2.2 row f sz one) i), .long ((addp (blkF x.2.2 row f sz one) x.1 i) i), .int (nI i), .ref a2]
      refine j_ladd hg (v := ((addp (blkF x.2.2 row f sz one) x.1 i) i) + (bpart (blkF x.2.2 row f sz one) i)) dP_addBlock_50 rfl ?_
      refine j_last hg (ws' := [aL E a1 5 r, aL E a2 5 (vp_updL (addp (blkF x.2.2 row f sz one) x.1 i) i (((addp (blkF x.2.2 row f sz one) x.1 i) i) + (bpart (blkF x.2.2 row f sz one) i))), aL E a3 5 x.2.1, aB E rr n row, ob h 1 [.ref a1, .ref a2, .ref a3, .ref a4, .ref a5, .ref a6], aB E a6 17 (blkF x.2.2 row f sz one)]) 1 i rfl rfl (by omega) (by omega) rfl dP_addBlock_51 ?_
      refine j_iinc hg (kq := 1) (v := nI (i + 1)) (lv' := [(5, .int (nI (i + 1))), (0, .ref h)]) dP_addBlock_52 rfl (nI_add i 1) (by decide) rfl ?_
      refine j_goto hg (tgt := 30) dP_addBlock_55 (by decide) ?_
      refine j_sub [4, 0, 1, 2, 5, 3] (ws' := [ob h 1 [.ref a1, .ref a2, .ref a3, .ref a4, .ref a5, .ref a6], aL E a1 5 r, aL E a2 5 (vp_updL (addp (blkF x.2.2 row f sz one) x.1 i) i (((addp (blkF x.2.2 row f sz one) x.1 i) i) + (bpart (blkF x.2.2 row f sz one) i))), aL E a3 5 x.2.1, aB E a6 17 (blkF x.2.2 row f sz one), aB E rr n row]) rfl (by decide) ?_
      refine j_pick [1, 0] (lv' := [(0, .ref h), (5, .int (nI (i + 1)))]) rfl ?_
      exact ih (i + 1) (by omega)
  exact loop (5) 0 (by omega)

def rm_P_add : Room := { frames := 3, cells := 0, slots := 0, locals := 76 }
set_option maxHeartbeats 1000000 in
set_option maxRecDepth 100000 in
theorem c_P_add (l : Launch) (E : Ev) (h a1 a2 a3 a4 a5 a6 : Nat) (rr n : Nat) (r : Nat → Int64) (x : TPB) (row : Nat → Int32) (f m : Nat) (hb : Byt row) (h1 : f + m ≤ n) (h4 : n < 1000000) : MC E l yP_add (cT yP_add cP_add 6 none) rm_P_add [.ref h, .ref rr, .int (nI f), .int (nI m)] [ob h 1 [.ref a1, .ref a2, .ref a3, .ref a4, .ref a5, .ref a6], aL E a1 5 r, aL E a2 5 x.1, aL E a3 5 x.2.1, aB E a6 17 x.2.2, aB E rr n row] Unit (fun _ => True) (fun _ => none) (fun _ => [ob h 1 [.ref a1, .ref a2, .ref a3, .ref a4, .ref a5, .ref a6], aL E a1 5 r, aL E a2 5 ((paddF r x row f m ((m + 15) / 16)).1), aL E a3 5 ((paddF r x row f m ((m + 15) / 16)).2.1), aB E a6 17 ((paddF r x row f m ((m + 15) / 16)).2.2), aB E rr n row]) := by
  refine MC.of (cc := cP_add) (nL := 6) (ret := none) (by decide) rfl cT_in (Nat.le_of_ble_eq_true rfl) (fun g hg hR => ?_)
  show J E 6 g [ob h 1 [.ref a1, .ref a2, .ref a3, .ref a4, .ref a5, .ref a6], aL E a1 5 r, aL E a2 5 x.1, aL E a3 5 x.2.1, aB E a6 17 x.2.2, aB E rr n row] [(0, .ref h), (1, .ref rr), (2, .int (nI f)), (3, .int (nI m))] 0 0 0 []
  refine j_iconst hg (v := 0) dP_add_0 (by decide) ?_
  refine j_istore hg (lv' := [(4, .int 0), (0, .ref h), (1, .ref rr), (2, .int (nI f)), (3, .int (nI m))]) dP_add_1 (by decide) rfl ?_
  refine j_pick [1, 2, 3, 4, 0] (lv' := [(0, .ref h), (1, .ref rr), (2, .int (nI f)), (3, .int (nI m)), (4, .int 0)]) rfl ?_
  have loop : ∀ (zk i : Nat), i + zk = (m + 15) / 16 → J E 6 g [ob h 1 [.ref a1, .ref a2, .ref a3, .ref a4, .ref a5, .ref a6], aL E a1 5 r, aL E a2 5 ((paddF r x row f m i).1), aL E a3 5 ((paddF r x row f m i).2.1), aB E a6 17 ((paddF r x row f m i).2.2), aB E rr n row] [(0, .ref h), (1, .ref rr), (2, .int (nI f)), (3, .int (nI m)), (4, .int (nI (16 * i)))] 0 0 3 [] := by
    intro zk
    induction zk with
    | zero =>
      intro i  hi
      obtain rfl : (m + 15) / 16 = i := by omega
      refine j_iload hg 4 dP_add_3 rfl ?_
      refine j_iload_n hg 3 dP_add_5 rfl rfl ?_
      refine j_nge_t hg (tgt := 39) (16 * ((m + 15) / 16)) m rfl rfl (by omega) (by omega) (by omega) dP_add_6 (by decide) ?_
      exact j_vret hg hR () trivial rfl [0, 1, 2, 3, 4, 5] rfl (by decide) (by decide) (by decide) dP_add_39
    | succ zk ih =>
      intro i  hi
      refine j_iload hg 4 dP_add_3 rfl ?_
      refine j_iload_n hg 3 dP_add_5 rfl rfl ?_
      refine j_nge_f hg (tgt := 39) (16 * i) m rfl rfl (by omega) (by omega) (by omega) dP_add_6 (by decide) ?_
      refine j_bipush hg (v := 16) dP_add_9 (by decide) ?_
      refine j_iload_n hg 3 dP_add_11 rfl rfl ?_
      refine j_iload hg 4 dP_add_12 rfl ?_
      refine j_isub hg (v := nI (m - (16 * i))) dP_add_14 (pk_sub (a := m) (b := 16 * i) (by omega)) ?_
      refine j_mmin hg (v := nI (min 16 (m - (16 * i)))) m212 m213 m7 m214 (Nat.le_of_ble_eq_true rfl) (Nat.le_of_ble_eq_true rfl) (by decide) (by decide) (nmin (by decide) (by omega)) dP_add_15 ?_
      refine j_istore hg (lv' := [(5, .int (nI (min 16 (m - (16 * i))))), (0, .ref h), (1, .ref rr), (2, .int (nI f)), (3, .int (nI m)), (4, .int (nI (16 * i)))]) dP_add_18 (by decide) rfl ?_
      refine j_aload_n hg 1 dP_add_20 rfl rfl ?_
      refine j_aload_n hg 2 dP_add_21 rfl rfl ?_
      refine j_iload_n hg 3 dP_add_22 rfl rfl ?_
      refine j_iload hg 5 dP_add_23 rfl ?_
      refine j_iadd hg (v := nI (f + (16 * i))) dP_add_25 (nI_add f (16 * i)) ?_
      refine j_iload hg 0 dP_add_26 rfl ?_
      refine j_iload hg 0 dP_add_28 rfl ?_
      refine j_callV hg (n := 4) (y := yP_addBlock) (rm := rm_P_addBlock) (Ws := (cT yP_addBlock cP_addBlock 6 none)) (As := [.ref rr, .int (nI (f + (16 * i))), .int (nI (min 16 (m - (16 * i)))), .int (nI (min 16 (m - (16 * i))))]) (rest := []) (wr := []) 0 rfl rfl (c_P_addBlock l E h a1 a2 a3 a4 a5 a6 rr n r ((paddF r x row f m i)) row (f + (16 * i)) (min 16 (m - (16 * i))) (min 16 (m - (16 * i))) hb (by omega) (by omega) (by omega) (by omega)) (gdV m215 m217 ms7 m3 m218) rfl (by decide +kernel) ⟨by decide, by decide⟩ rfl rfl (Nat.le_of_ble_eq_true rfl) ⟨by decide, by decide⟩ [0, 1, 2, 3, 4, 5] [] rfl rfl (by decide) (by decide) (by decide) dP_add_30 (fun _ _ => ?_)
      show J E 6 g [ob h 1 [.ref a1, .ref a2, .ref a3, .ref a4, .ref a5, .ref a6], aL E a1 5 r, aL E a2 5 ((abkF r ((paddF r x row f m i)) row (f + (16 * i)) (min 16 (m - (16 * i))) (min 16 (m - (16 * i)))).1), aL E a3 5 ((abkF r ((paddF r x row f m i)) row (f + (16 * i)) (min 16 (m - (16 * i))) (min 16 (m - (16 * i)))).2.1), aB E a6 17 ((abkF r ((paddF r x row f m i)) row (f + (16 * i)) (min 16 (m - (16 * i))) (min 16 (m - (16 * i)))).2.2), aB E rr n row] [(5, .int (nI (min 16 (m - (16 * i))))), (0, .ref h), (1, .ref rr), (2, .int (nI f)), (3, .int (nI m)), (4, .int (nI (16 * i)))] 0 0 33 []
      refine j_iinc hg (kq := 5) (v := nI (16 * (i + 1))) (lv' := [(4, .int (nI (16 * (i + 1)))), (5, .int (nI (min 16 (m - (16 * i))))), (0, .ref h), (1, .ref rr), (2, .int (nI f)), (3, .int (nI m))]) dP_add_33 rfl (Eq.trans (nI_add (16 * i) 16) (congrArg nI (by omega))) (by decide) rfl ?_
      refine j_goto hg (tgt := 3) dP_add_36 (by decide) ?_
      refine j_pick [2, 3, 4, 5, 0] (lv' := [(0, .ref h), (1, .ref rr), (2, .int (nI f)), (3, .int (nI m)), (4, .int (nI (16 * (i + 1))))]) rfl ?_
      exact ih (i + 1) (by omega)
  exact loop ((m + 15) / 16) 0 (by omega)

def rm_P_addPadded : Room := { frames := 3, cells := 0, slots := 0, locals := 76 }
set_option maxHeartbeats 1000000 in
set_option maxRecDepth 100000 in
theorem c_P_addPadded (l : Launch) (E : Ev) (h a1 a2 a3 a4 a5 a6 : Nat) (rr n : Nat) (r : Nat → Int64) (x : TPB) (row : Nat → Int32) (f m : Nat) (hb : Byt row) (h1 : f + m ≤ n) (h4 : n < 1000000) : MC E l yP_addPadded (cT yP_addPadded cP_addPadded 5 none) rm_P_addPadded [.ref h, .ref rr, .int (nI f), .int (nI m)] [ob h 1 [.ref a1, .ref a2, .ref a3, .ref a4, .ref a5, .ref a6], aL E a1 5 r, aL E a2 5 x.1, aL E a3 5 x.2.1, aB E a6 17 x.2.2, aB E rr n row] Unit (fun _ => True) (fun _ => none) (fun _ => [ob h 1 [.ref a1, .ref a2, .ref a3, .ref a4, .ref a5, .ref a6], aL E a1 5 r, aL E a2 5 ((ppadF r x row f m ((m + 15) / 16)).1), aL E a3 5 ((ppadF r x row f m ((m + 15) / 16)).2.1), aB E a6 17 ((ppadF r x row f m ((m + 15) / 16)).2.2), aB E rr n row]) := by
  refine MC.of (cc := cP_addPadded) (nL := 5) (ret := none) (by decide) rfl cT_in (Nat.le_of_ble_eq_true rfl) (fun g hg hR => ?_)
  show J E 5 g [ob h 1 [.ref a1, .ref a2, .ref a3, .ref a4, .ref a5, .ref a6], aL E a1 5 r, aL E a2 5 x.1, aL E a3 5 x.2.1, aB E a6 17 x.2.2, aB E rr n row] [(0, .ref h), (1, .ref rr), (2, .int (nI f)), (3, .int (nI m))] 0 0 0 []
  refine j_iconst hg (v := 0) dP_addPadded_0 (by decide) ?_
  refine j_istore hg (lv' := [(4, .int 0), (0, .ref h), (1, .ref rr), (2, .int (nI f)), (3, .int (nI m))]) dP_addPadded_1 (by decide) rfl ?_
  refine j_pick [1, 2, 3, 4, 0] (lv' := [(0, .ref h), (1, .ref rr), (2, .int (nI f)), (3, .int (nI m)), (4, .int 0)]) rfl ?_
  have loop : ∀ (zk i : Nat), i + zk = (m + 15) / 16 → J E 5 g [ob h 1 [.ref a1, .ref a2, .ref a3, .ref a4, .ref a5, .ref a6], aL E a1 5 r, aL E a2 5 ((ppadF r x row f m i).1), aL E a3 5 ((ppadF r x row f m i).2.1), aB E a6 17 ((ppadF r x row f m i).2.2), aB E rr n row] [(0, .ref h), (1, .ref rr), (2, .int (nI f)), (3, .int (nI m)), (4, .int (nI (16 * i)))] 0 0 3 [] := by
    intro zk
    induction zk with
    | zero =>
      intro i  hi
      obtain rfl : (m + 15) / 16 = i := by omega
      refine j_iload hg 4 dP_addPadded_3 rfl ?_
      refine j_iload_n hg 3 dP_addPadded_5 rfl rfl ?_
      refine j_nge_t hg (tgt := 35) (16 * ((m + 15) / 16)) m rfl rfl (by omega) (by omega) (by omega) dP_addPadded_6 (by decide) ?_
      exact j_vret hg hR () trivial rfl [0, 1, 2, 3, 4, 5] rfl (by decide) (by decide) (by decide) dP_addPadded_35
    | succ zk ih =>
      intro i  hi
      refine j_iload hg 4 dP_addPadded_3 rfl ?_
      refine j_iload_n hg 3 dP_addPadded_5 rfl rfl ?_
      refine j_nge_f hg (tgt := 35) (16 * i) m rfl rfl (by omega) (by omega) (by omega) dP_addPadded_6 (by decide) ?_
      refine j_aload_n hg 0 dP_addPadded_9 rfl rfl ?_
      refine j_aload_n hg 1 dP_addPadded_10 rfl rfl ?_
      refine j_iload_n hg 2 dP_addPadded_11 rfl rfl ?_
      refine j_iload hg 4 dP_addPadded_12 rfl ?_
      refine j_iadd hg (v := nI (f + (16 * i))) dP_addPadded_14 (nI_add f (16 * i)) ?_
      refine j_bipush hg (v := 16) dP_addPadded_15 (by decide) ?_
      refine j_iload_n hg 3 dP_addPadded_17 rfl rfl ?_
      refine j_iload hg 4 dP_addPadded_18 rfl ?_
      refine j_isub hg (v := nI (m - (16 * i))) dP_addPadded_20 (pk_sub (a := m) (b := 16 * i) (by omega)) ?_
      refine j_mmin hg (v := nI (min 16 (m - (16 * i)))) m212 m213 m7 m214 (Nat.le_of_ble_eq_true rfl) (Nat.le_of_ble_eq_true rfl) (by decide) (by decide) (nmin (by decide) (by omega)) dP_addPadded_21 ?_
      refine j_bipush hg (v := 16) dP_addPadded_24 (by decide) ?_
      refine j_callV hg (n := 4) (y := yP_addBlock) (rm := rm_P_addBlock) (Ws := (cT yP_addBlock cP_addBlock 6 none)) (As := [.ref rr, .int (nI (f + (16 * i))), .int (nI (min 16 (m - (16 * i)))), .int 16]) (rest := []) (wr := []) 0 rfl rfl (c_P_addBlock l E h a1 a2 a3 a4 a5 a6 rr n r ((ppadF r x row f m i)) row (f + (16 * i)) (min 16 (m - (16 * i))) 16 hb (by omega) (by omega) (by omega) (by omega)) (gdV m215 m217 ms7 m3 m218) rfl (by decide +kernel) ⟨by decide, by decide⟩ rfl rfl (Nat.le_of_ble_eq_true rfl) ⟨by decide, by decide⟩ [0, 1, 2, 3, 4, 5] [] rfl rfl (by decide) (by decide) (by decide) dP_addPadded_26 (fun _ _ => ?_)
      show J E 5 g [ob h 1 [.ref a1, .ref a2, .ref a3, .ref a4, .ref a5, .ref a6], aL E a1 5 r, aL E a2 5 ((abkF r ((ppadF r x row f m i)) row (f + (16 * i)) (min 16 (m - (16 * i))) 16).1), aL E a3 5 ((abkF r ((ppadF r x row f m i)) row (f + (16 * i)) (min 16 (m - (16 * i))) 16).2.1), aB E a6 17 ((abkF r ((ppadF r x row f m i)) row (f + (16 * i)) (min 16 (m - (16 * i))) 16).2.2), aB E rr n row] [(0, .ref h), (1, .ref rr), (2, .int (nI f)), (3, .int (nI m)), (4, .int (nI (16 * i)))] 0 0 29 []
      refine j_iinc hg (kq := 4) (v := nI (16 * (i + 1))) (lv' := [(4, .int (nI (16 * (i + 1)))), (0, .ref h), (1, .ref rr), (2, .int (nI f)), (3, .int (nI m))]) dP_addPadded_29 rfl (Eq.trans (nI_add (16 * i) 16) (congrArg nI (by omega))) (by decide) rfl ?_
      refine j_goto hg (tgt := 3) dP_addPadded_32 (by decide) ?_
      refine j_pick [1, 2, 3, 4, 0] (lv' := [(0, .ref h), (1, .ref rr), (2, .int (nI f)), (3, .int (nI m)), (4, .int (nI (16 * (i + 1))))]) rfl ?_
      exact ih (i + 1) (by omega)
  exact loop ((m + 15) / 16) 0 (by omega)

def kblk (b key : Nat → Int32) : Nat → Int32 := clampF (upd (va_cpy key b 0 0 16) 16 0)

def rm_P_start : Room := { frames := 2, cells := 0, slots := 0, locals := 44 }
set_option maxHeartbeats 1000000 in
set_option maxRecDepth 100000 in
theorem c_P_start (l : Launch) (E : Ev) (h a1 a2 a3 a4 a5 a6 : Nat) (rr n : Nat) (fa t : Nat → Int64) (la b key : Nat → Int32) (hb : Byt key) (h1 : 32 ≤ n) (h4 : n < 2147483648) : MC E l yP_start (cT yP_start cP_start 3 none) rm_P_start [.ref h, .ref rr] [ob h 1 [.ref a1, .ref a2, .ref a3, .ref a4, .ref a5, .ref a6], aL E a1 5 fa, aL E a2 5 t, aI E a5 4 la, aB E a6 17 b, aB E rr n key] Unit (fun _ => True) (fun _ => none) (fun _ => [ob h 1 [.ref a1, .ref a2, .ref a3, .ref a4, .ref a5, .ref a6], aL E a1 5 (parts5 (kblk b key) fa 5), aL E a2 5 (zeros5 t 5), aI E a5 4 (last4 key la 4), aB E a6 17 (kblk b key), aB E rr n key]) := by
  refine MC.of (cc := cP_start) (nL := 3) (ret := none) (by decide) rfl cT_in (Nat.le_of_ble_eq_true rfl) (fun g hg hR => ?_)
  show J E 3 g [ob h 1 [.ref a1, .ref a2, .ref a3, .ref a4, .ref a5, .ref a6], aL E a1 5 fa, aL E a2 5 t, aI E a5 4 la, aB E a6 17 b, aB E rr n key] [(0, .ref h), (1, .ref rr)] 0 0 0 []
  refine j_aload_n hg 1 dP_start_0 rfl rfl ?_
  refine j_iconst hg (v := 0) dP_start_1 (by decide) ?_
  refine j_aload_n hg 0 dP_start_2 rfl rfl ?_
  refine j_get hg (C := RX1) (T := TX1) (N := 6) inX1 0 rfl rfl 5 (by decide) m43 rfl dP_start_3 ?_
  refine j_iconst hg (v := 0) dP_start_6 (by decide) ?_
  refine j_bipush hg (v := 16) dP_start_7 (by decide) ?_
  refine j_copyB hg (ws' := [ob h 1 [.ref a1, .ref a2, .ref a3, .ref a4, .ref a5, .ref a6], aL E a1 5 fa, aL E a2 5 t, aI E a5 4 la, aB E a6 17 (va_cpy key b 0 0 16), aB E rr n key]) 5 4 0 0 16 ⟨m196, m141, m140, m6⟩ rfl rfl rfl rfl rfl (by omega) (by omega) (by omega) (by omega) (fun t _ => hb _) (Nat.le_of_ble_eq_true rfl) (Nat.le_of_ble_eq_true rfl) rfl dP_start_9 ?_
  refine j_aload_n hg 0 dP_start_12 rfl rfl ?_
  refine j_get hg (C := RX1) (T := TX1) (N := 6) inX1 0 rfl rfl 5 (by decide) m43 rfl dP_start_13 ?_
  refine j_bipush hg (v := 16) dP_start_16 (by decide) ?_
  refine j_iconst hg (v := 0) dP_start_18 (by decide) ?_
  refine j_bast hg (ws' := [ob h 1 [.ref a1, .ref a2, .ref a3, .ref a4, .ref a5, .ref a6], aL E a1 5 fa, aL E a2 5 t, aI E a5 4 la, aB E a6 17 (upd (va_cpy key b 0 0 16) 16 0), aB E rr n key]) 4 16 rfl rfl (by omega) (by omega) (by decide) rfl dP_start_19 ?_
  refine j_aload_n hg 0 dP_start_20 rfl rfl ?_
  refine j_callV hg (n := 0) (y := yP_clampBlock) (rm := rm_P_clampBlock) (Ws := (cT yP_clampBlock cP_clampBlock 2 none)) (As := []) (rest := []) (wr := [aL E a1 5 fa, aL E a2 5 t, aI E a5 4 la, aB E rr n key]) 0 rfl rfl (c_P_clampBlock l E h a1 a2 a3 a4 a5 a6 (upd (va_cpy key b 0 0 16) 16 0)) (gdV m197 m199 ms5 m3 m200) rfl (by decide +kernel) ⟨by decide, by decide⟩ rfl rfl (Nat.le_of_ble_eq_true rfl) ⟨by decide, by decide⟩ [0, 4] [1, 2, 3, 5] rfl rfl (by decide) (by decide) (by decide) dP_start_21 (fun _ _ => ?_)
  show J E 3 g [aL E a1 5 fa, aL E a2 5 t, aI E a5 4 la, aB E rr n key, ob h 1 [.ref a1, .ref a2, .ref a3, .ref a4, .ref a5, .ref a6], aB E a6 17 (clampF (upd (va_cpy key b 0 0 16) 16 0))] [(0, .ref h), (1, .ref rr)] 0 0 24 []
  refine j_iconst hg (v := 0) dP_start_24 (by decide) ?_
  refine j_istore_n hg (lv' := [(2, .int 0), (0, .ref h), (1, .ref rr)]) dP_start_25 rfl (by decide) rfl ?_
  refine j_sub [4, 0, 1, 2, 5, 3] (ws' := [ob h 1 [.ref a1, .ref a2, .ref a3, .ref a4, .ref a5, .ref a6], aL E a1 5 fa, aL E a2 5 t, aI E a5 4 la, aB E a6 17 (clampF (upd (va_cpy key b 0 0 16) 16 0)), aB E rr n key]) rfl (by decide) ?_
  show J E 3 g [ob h 1 [.ref a1, .ref a2, .ref a3, .ref a4, .ref a5, .ref a6], aL E a1 5 fa, aL E a2 5 t, aI E a5 4 la, aB E a6 17 (kblk b key), aB E rr n key] [(2, .int 0), (0, .ref h), (1, .ref rr)] 0 0 26 []
  refine j_pick [1, 2, 0] (lv' := [(0, .ref h), (1, .ref rr), (2, .int 0)]) rfl ?_
  have loop : ∀ (zk i : Nat), i + zk = 5 → J E 3 g [ob h 1 [.ref a1, .ref a2, .ref a3, .ref a4, .ref a5, .ref a6], aL E a1 5 (parts5 (kblk b key) fa i), aL E a2 5 (zeros5 t i), aI E a5 4 la, aB E a6 17 (kblk b key), aB E rr n key] [(0, .ref h), (1, .ref rr), (2, .int (nI i))] 0 0 26 [] := by
    intro zk
    induction zk with
    | zero =>
      intro i  hi
      obtain rfl : 5 = i := by omega
      refine j_iload_n hg 2 dP_start_26 rfl rfl ?_
      refine j_iconst hg (v := 5) dP_start_27 (by decide) ?_
      refine j_nge_t hg (tgt := 55) 5 5 rfl rfl (by omega) (by omega) (by omega) dP_start_28 (by decide) ?_
      refine j_iconst hg (v := 0) dP_start_55 (by decide) ?_
      refine j_istore_n hg (lv' := [(2, .int 0), (0, .ref h), (1, .ref rr)]) dP_start_56 rfl (by decide) rfl ?_
      refine j_pick [1, 2, 0] (lv' := [(0, .ref h), (1, .ref rr), (2, .int 0)]) rfl ?_
      have loop2 : ∀ (zk i : Nat), i + zk = 4 → J E 3 g [ob h 1 [.ref a1, .ref a2, .ref a3, .ref a4, .ref a5, .ref a6], aL E a1 5 (parts5 (kblk b key) fa 5), aL E a2 5 (zeros5 t 5), aI E a5 4 (last4 key la i), aB E a6 17 (kblk b key), aB E rr n key] [(0, .ref h), (1, .ref rr), (2, .int (nI i))] 0 0 57 [] := by
        intro zk
        induction zk with
        | zero =>
          intro i  hi
          obtain rfl : 4 = i := by omega
          refine j_iload_n hg 2 dP_start_57 rfl rfl ?_
          refine j_iconst hg (v := 4) dP_start_58 (by decide) ?_
          refine j_nge_t hg (tgt := 84) 4 4 rfl rfl (by omega) (by omega) (by omega) dP_start_59 (by decide) ?_
          exact j_vret hg hR () trivial rfl [0, 1, 2, 3, 4, 5] rfl (by decide) (by decide) (by decide) dP_start_84
        | succ zk ih =>
          intro i  hi
          refine j_iload_n hg 2 dP_start_57 rfl rfl ?_
          refine j_iconst hg (v := 4) dP_start_58 (by decide) ?_
          refine j_nge_f hg (tgt := 84) i 4 rfl rfl (by omega) (by omega) (by omega) dP_start_59 (by decide) ?_
          refine j_aload_n hg 0 dP_start_62 rfl rfl ?_
          refine j_get hg (C := RX1) (T := TX1) (N := 6) inX1 0 rfl rfl 4 (by decide) m42 rfl dP_start_63 ?_
          refine j_iload_n hg 2 dP_start_66 rfl rfl ?_
          refine j_aload_n hg 1 dP_start_67 rfl rfl ?_
          refine j_bipush hg (v := 16) dP_start_68 (by decide) ?_
          refine j_iconst hg (v := 4) dP_start_70 (by decide) ?_
          refine j_iload_n hg 2 dP_start_71 rfl rfl ?_
          refine j_imul hg (v := nI (4 * i)) dP_start_72 (pk_mul 4 i) ?_
          refine j_iadd hg (v := nI (16 + (4 * i))) dP_start_73 (nI_add 16 (4 * i)) ?_
          refine j_callSN hg (n := 2) (y := yS_readLowestFirst) (rm := rm_S_readLowestFirst) (Ws := (cT yS_readLowestFirst cS_readLowestFirst 2 (some .int))) (As := [.ref rr, .int (nI (16 + (4 * i)))]) (rest := [.int (nI i), .ref a5]) (wr := [ob h 1 [.ref a1, .ref a2, .ref a3, .ref a4, .ref a5, .ref a6], aL E a1 5 (parts5 (kblk b key) fa 5), aL E a2 5 (zeros5 t 5), aI E a5 4 (last4 key la i), aB E a6 17 (kblk b key)]) (host := RX3) (c_S_readLowestFirst l E rr n key (16 + (4 * i)) (by omega) (by omega)) (gdT m168) rfl m1 (by decide +kernel) m167 (by decide +kernel) ⟨by decide, by decide⟩ rfl rfl (Nat.le_of_ble_eq_true rfl) ⟨by decide, by decide⟩ [5] [0, 1, 2, 3, 4] rfl rfl (by decide) (by decide) (by decide) dP_start_74 (fun _ _ => ?_)
          show J E 3 g [ob h 1 [.ref a1, .ref a2, .ref a3, .ref a4, .ref a5, .ref a6], aL E a1 5 (parts5 (kblk b key) fa 5), aL E a2 5 (zeros5 t 5), aI E a5 4 (last4 key la i), aB E a6 17 (kblk b key), aB E rr n key] [(0, .ref h), (1, .ref rr), (2, .int (nI i))] 0 0 77 [.int (rl key (16 + (4 * i))), .int (nI i), .ref a5]
          refine j_iast hg (ws' := [ob h 1 [.ref a1, .ref a2, .ref a3, .ref a4, .ref a5, .ref a6], aL E a1 5 (parts5 (kblk b key) fa 5), aL E a2 5 (zeros5 t 5), aI E a5 4 (upd (last4 key la i) i (rl key (16 + (4 * i)))), aB E a6 17 (kblk b key), aB E rr n key]) 3 i rfl rfl (by omega) (by omega) rfl dP_start_77 ?_
          refine j_iinc hg (kq := 2) (v := nI (i + 1)) (lv' := [(2, .int (nI (i + 1))), (0, .ref h), (1, .ref rr)]) dP_start_78 rfl (nI_add i 1) (by decide) rfl ?_
          refine j_goto hg (tgt := 57) dP_start_81 (by decide) ?_
          refine j_pick [1, 2, 0] (lv' := [(0, .ref h), (1, .ref rr), (2, .int (nI (i + 1)))]) rfl ?_
          exact ih (i + 1) (by omega)
      exact loop2 (4) 0 (by omega)
    | succ zk ih =>
      intro i  hi
      refine j_iload_n hg 2 dP_start_26 rfl rfl ?_
      refine j_iconst hg (v := 5) dP_start_27 (by decide) ?_
      refine j_nge_f hg (tgt := 55) i 5 rfl rfl (by omega) (by omega) (by omega) dP_start_28 (by decide) ?_
      refine j_aload_n hg 0 dP_start_31 rfl rfl ?_
      refine j_get hg (C := RX1) (T := TX1) (N := 6) inX1 0 rfl rfl 0 (by decide) m38 rfl dP_start_32 ?_
      refine j_iload_n hg 2 dP_start_35 rfl rfl ?_
      refine j_aload_n hg 0 dP_start_36 rfl rfl ?_
      refine j_iload_n hg 2 dP_start_37 rfl rfl ?_
      refine j_callV hg (n := 1) (y := yP_blockPart) (rm := rm_P_blockPart) (Ws := (cT yP_blockPart cP_blockPart 4 (some .long))) (As := [.int (nI i)]) (rest := [.int (nI i), .ref a1]) (wr := [aL E a1 5 (parts5 (kblk b key) fa i), aL E a2 5 (zeros5 t i), aI E a5 4 la, aB E rr n key]) 0 rfl rfl (c_P_blockPart l E h a1 a2 a3 a4 a5 a6 (kblk b key) i (by omega)) (gdV m201 m203 ms6 m3 m204) rfl (by decide +kernel) ⟨by decide, by decide⟩ rfl rfl (Nat.le_of_ble_eq_true rfl) ⟨by decide, by decide⟩ [0, 4] [1, 2, 3, 5] rfl rfl (by decide) (by decide) (by decide) dP_start_38 (fun _ _ => ?_)
      show J E 3 g [aL E a1 5 (parts5 (kblk b key) fa i), aL E a2 5 (zeros5 t i), aI E a5 4 la, aB E rr n key, ob h 1 [.ref a1, .ref a2, .ref a3, .ref a4, .ref a5, .ref a6], aB E a6 17 (kblk b key)] [(0, .ref h), (1, .ref rr), (2, .int (nI i))] 0 0 41 [.long (bpart (kblk b key) i), .int (nI i), .ref a1]
      refine j_last hg (ws' := [aL E a1 5 (vp_updL (parts5 (kblk b key) fa i) i (bpart (kblk b key) i)), aL E a2 5 (zeros5 t i), aI E a5 4 la, aB E rr n key, ob h 1 [.ref a1, .ref a2, .ref a3, .ref a4, .ref a5, .ref a6], aB E a6 17 (kblk b key)]) 0 i rfl rfl (by omega) (by omega) rfl dP_start_41 ?_
      refine j_aload_n hg 0 dP_start_42 rfl rfl ?_
      refine j_get hg (C := RX1) (T := TX1) (N := 6) inX1 4 rfl rfl 1 (by decide) m39 rfl dP_start_43 ?_
      refine j_iload_n hg 2 dP_start_46 rfl rfl ?_
      refine j_lconst hg (v := 0) dP_start_47 (by decide) ?_
      refine j_last hg (ws' := [aL E a1 5 (vp_updL (parts5 (kblk b key) fa i) i (bpart (kblk b key) i)), aL E a2 5 (vp_updL (zeros5 t i) i 0), aI E a5 4 la, aB E rr n key, ob h 1 [.ref a1, .ref a2, .ref a3, .ref a4, .ref a5, .ref a6], aB E a6 17 (kblk b key)]) 1 i rfl rfl (by omega) (by omega) rfl dP_start_48 ?_
      refine j_iinc hg (kq := 2) (v := nI (i + 1)) (lv' := [(2, .int (nI (i + 1))), (0, .ref h), (1, .ref rr)]) dP_start_49 rfl (nI_add i 1) (by decide) rfl ?_
      refine j_goto hg (tgt := 26) dP_start_52 (by decide) ?_
      refine j_sub [4, 0, 1, 2, 5, 3] (ws' := [ob h 1 [.ref a1, .ref a2, .ref a3, .ref a4, .ref a5, .ref a6], aL E a1 5 (vp_updL (parts5 (kblk b key) fa i) i (bpart (kblk b key) i)), aL E a2 5 (vp_updL (zeros5 t i) i 0), aI E a5 4 la, aB E a6 17 (kblk b key), aB E rr n key]) rfl (by decide) ?_
      refine j_pick [1, 2, 0] (lv' := [(0, .ref h), (1, .ref rr), (2, .int (nI (i + 1)))]) rfl ?_
      exact ih (i + 1) (by omega)
  exact loop (5) 0 (by omega)

def rm_P_finish : Room := { frames := 2, cells := 0, slots := 0, locals := 43 }
set_option maxHeartbeats 1000000 in
set_option maxRecDepth 100000 in
theorem c_P_finish (l : Launch) (E : Ev) (h a1 a2 a3 a4 a5 a6 : Nat) (rr n : Nat) (t p wo : Nat → Int64) (la row : Nat → Int32) (k : Nat) (h1 : k + 16 ≤ n) (h4 : n < 2147483648) : MC E l yP_finish (cT yP_finish cP_finish 6 none) rm_P_finish [.ref h, .ref rr, .int (nI k)] [ob h 1 [.ref a1, .ref a2, .ref a3, .ref a4, .ref a5, .ref a6], aL E a2 5 t, aL E a3 5 p, aL E a4 4 wo, aI E a5 4 la, aB E rr n row] Unit (fun _ => True) (fun _ => none) (fun _ => [ob h 1 [.ref a1, .ref a2, .ref a3, .ref a4, .ref a5, .ref a6], aL E a2 5 (finT t p), aL E a3 5 (tpP (car t) p 5), aL E a4 4 (words4 (finT t p) wo), aI E a5 4 la, aB E rr n ((foS (words4 (finT t p) wo) la row k 4).2)]) := by
  refine MC.of (cc := cP_finish) (nL := 6) (ret := none) (by decide) rfl cT_in (Nat.le_of_ble_eq_true rfl) (fun g hg hR => ?_)
  show J E 6 g [ob h 1 [.ref a1, .ref a2, .ref a3, .ref a4, .ref a5, .ref a6], aL E a2 5 t, aL E a3 5 p, aL E a4 4 wo, aI E a5 4 la, aB E rr n row] [(0, .ref h), (1, .ref rr), (2, .int (nI k))] 0 0 0 []
  refine j_aload_n hg 0 dP_finish_0 rfl rfl ?_
  refine j_callV hg (n := 0) (y := yP_carry) (rm := rm_P_carry) (Ws := (cT yP_carry cP_carry 6 none)) (As := []) (rest := []) (wr := [aL E a3 5 p, aL E a4 4 wo, aI E a5 4 la, aB E rr n row]) 0 rfl rfl (c_P_carry l E h a1 a2 a3 a4 a5 a6 t) (gdV m227 m229 ms9 m3 m230) rfl (by decide +kernel) ⟨by decide, by decide⟩ rfl rfl (Nat.le_of_ble_eq_true rfl) ⟨by decide, by decide⟩ [0, 1] [2, 3, 4, 5] rfl rfl (by decide) (by decide) (by decide) dP_finish_1 (fun _ _ => ?_)
  show J E 6 g [aL E a3 5 p, aL E a4 4 wo, aI E a5 4 la, aB E rr n row, ob h 1 [.ref a1, .ref a2, .ref a3, .ref a4, .ref a5, .ref a6], aL E a2 5 (car t)] [(0, .ref h), (1, .ref rr), (2, .int (nI k))] 0 0 4 []
  refine j_aload_n hg 0 dP_finish_4 rfl rfl ?_
  refine j_callV hg (n := 0) (y := yP_takePrimeOff) (rm := rm_P_takePrimeOff) (Ws := (cT yP_takePrimeOff cP_takePrimeOff 6 none)) (As := []) (rest := []) (wr := [aL E a4 4 wo, aI E a5 4 la, aB E rr n row]) 0 rfl rfl (c_P_takePrimeOff l E h a1 a2 a3 a4 a5 a6 (car t) p) (gdV m235 m237 ms10 m3 m238) rfl (by decide +kernel) ⟨by decide, by decide⟩ rfl rfl (Nat.le_of_ble_eq_true rfl) ⟨by decide, by decide⟩ [4, 5, 0] [1, 2, 3] rfl rfl (by decide) (by decide) (by decide) dP_finish_5 (fun _ _ => ?_)
  show J E 6 g [aL E a4 4 wo, aI E a5 4 la, aB E rr n row, ob h 1 [.ref a1, .ref a2, .ref a3, .ref a4, .ref a5, .ref a6], aL E a2 5 (tpT (car t) p), aL E a3 5 (tpP (car t) p 5)] [(0, .ref h), (1, .ref rr), (2, .int (nI k))] 0 0 8 []
  refine j_aload_n hg 0 dP_finish_8 rfl rfl ?_
  refine j_get hg (C := RX1) (T := TX1) (N := 6) inX1 3 rfl rfl 3 (by decide) m41 rfl dP_finish_9 ?_
  refine j_iconst hg (v := 0) dP_finish_12 (by decide) ?_
  refine j_aload_n hg 0 dP_finish_13 rfl rfl ?_
  refine j_get hg (C := RX1) (T := TX1) (N := 6) inX1 3 rfl rfl 1 (by decide) m39 rfl dP_finish_14 ?_
  refine j_iconst hg (v := 0) dP_finish_17 (by decide) ?_
  refine j_lald hg (v := (tpT (car t) p) 0) 4 0 rfl rfl (by omega) (by omega) rfl dP_finish_18 ?_
  refine j_aload_n hg 0 dP_finish_19 rfl rfl ?_
  refine j_get hg (C := RX1) (T := TX1) (N := 6) inX1 3 rfl rfl 1 (by decide) m39 rfl dP_finish_20 ?_
  refine j_iconst hg (v := 1) dP_finish_23 (by decide) ?_
  refine j_lald hg (v := (tpT (car t) p) 1) 4 1 rfl rfl (by omega) (by omega) rfl dP_finish_24 ?_
  refine j_bipush hg (v := 26) dP_finish_25 (by decide) ?_
  refine j_lshl hg (v := lshl ((tpT (car t) p) 1) 26) dP_finish_27 rfl ?_
  refine j_lor hg (v := ((tpT (car t) p) 0) ||| (lshl ((tpT (car t) p) 1) 26)) dP_finish_28 rfl ?_
  refine j_last hg (ws' := [aL E a4 4 (vp_updL wo 0 (((tpT (car t) p) 0) ||| (lshl ((tpT (car t) p) 1) 26))), aI E a5 4 la, aB E rr n row, ob h 1 [.ref a1, .ref a2, .ref a3, .ref a4, .ref a5, .ref a6], aL E a2 5 (tpT (car t) p), aL E a3 5 (tpP (car t) p 5)]) 0 0 rfl rfl (by omega) (by omega) rfl dP_finish_29 ?_
  refine j_aload_n hg 0 dP_finish_30 rfl rfl ?_
  refine j_get hg (C := RX1) (T := TX1) (N := 6) inX1 3 rfl rfl 3 (by decide) m41 rfl dP_finish_31 ?_
  refine j_iconst hg (v := 1) dP_finish_34 (by decide) ?_
  refine j_aload_n hg 0 dP_finish_35 rfl rfl ?_
  refine j_get hg (C := RX1) (T := TX1) (N := 6) inX1 3 rfl rfl 1 (by decide) m39 rfl dP_finish_36 ?_
  refine j_iconst hg (v := 1) dP_finish_39 (by decide) ?_
  refine j_lald hg (v := (tpT (car t) p) 1) 4 1 rfl rfl (by omega) (by omega) rfl dP_finish_40 ?_
  refine j_bipush hg (v := 6) dP_finish_41 (by decide) ?_
  refine j_lushr hg (v := lushr ((tpT (car t) p) 1) 6) dP_finish_43 rfl ?_
  refine j_aload_n hg 0 dP_finish_44 rfl rfl ?_
  refine j_get hg (C := RX1) (T := TX1) (N := 6) inX1 3 rfl rfl 1 (by decide) m39 rfl dP_finish_45 ?_
  refine j_iconst hg (v := 2) dP_finish_48 (by decide) ?_
  refine j_lald hg (v := (tpT (car t) p) 2) 4 2 rfl rfl (by omega) (by omega) rfl dP_finish_49 ?_
  refine j_bipush hg (v := 20) dP_finish_50 (by decide) ?_
  refine j_lshl hg (v := lshl ((tpT (car t) p) 2) 20) dP_finish_52 rfl ?_
  refine j_lor hg (v := (lushr ((tpT (car t) p) 1) 6) ||| (lshl ((tpT (car t) p) 2) 20)) dP_finish_53 rfl ?_
  refine j_last hg (ws' := [aL E a4 4 (vp_updL (vp_updL wo 0 (((tpT (car t) p) 0) ||| (lshl ((tpT (car t) p) 1) 26))) 1 ((lushr ((tpT (car t) p) 1) 6) ||| (lshl ((tpT (car t) p) 2) 20))), aI E a5 4 la, aB E rr n row, ob h 1 [.ref a1, .ref a2, .ref a3, .ref a4, .ref a5, .ref a6], aL E a2 5 (tpT (car t) p), aL E a3 5 (tpP (car t) p 5)]) 0 1 rfl rfl (by omega) (by omega) rfl dP_finish_54 ?_
  refine j_aload_n hg 0 dP_finish_55 rfl rfl ?_
  refine j_get hg (C := RX1) (T := TX1) (N := 6) inX1 3 rfl rfl 3 (by decide) m41 rfl dP_finish_56 ?_
  refine j_iconst hg (v := 2) dP_finish_59 (by decide) ?_
  refine j_aload_n hg 0 dP_finish_60 rfl rfl ?_
  refine j_get hg (C := RX1) (T := TX1) (N := 6) inX1 3 rfl rfl 1 (by decide) m39 rfl dP_finish_61 ?_
  refine j_iconst hg (v := 2) dP_finish_64 (by decide) ?_
  refine j_lald hg (v := (tpT (car t) p) 2) 4 2 rfl rfl (by omega) (by omega) rfl dP_finish_65 ?_
  refine j_bipush hg (v := 12) dP_finish_66 (by decide) ?_
  refine j_lushr hg (v := lushr ((tpT (car t) p) 2) 12) dP_finish_68 rfl ?_
  refine j_aload_n hg 0 dP_finish_69 rfl rfl ?_
  refine j_get hg (C := RX1) (T := TX1) (N := 6) inX1 3 rfl rfl 1 (by decide) m39 rfl dP_finish_70 ?_
  refine j_iconst hg (v := 3) dP_finish_73 (by decide) ?_
  refine j_lald hg (v := (tpT (car t) p) 3) 4 3 rfl rfl (by omega) (by omega) rfl dP_finish_74 ?_
  refine j_bipush hg (v := 14) dP_finish_75 (by decide) ?_
  refine j_lshl hg (v := lshl ((tpT (car t) p) 3) 14) dP_finish_77 rfl ?_
  refine j_lor hg (v := (lushr ((tpT (car t) p) 2) 12) ||| (lshl ((tpT (car t) p) 3) 14)) dP_finish_78 rfl ?_
  refine j_last hg (ws' := [aL E a4 4 (vp_updL (vp_updL (vp_updL wo 0 (((tpT (car t) p) 0) ||| (lshl ((tpT (car t) p) 1) 26))) 1 ((lushr ((tpT (car t) p) 1) 6) ||| (lshl ((tpT (car t) p) 2) 20))) 2 ((lushr ((tpT (car t) p) 2) 12) ||| (lshl ((tpT (car t) p) 3) 14))), aI E a5 4 la, aB E rr n row, ob h 1 [.ref a1, .ref a2, .ref a3, .ref a4, .ref a5, .ref a6], aL E a2 5 (tpT (car t) p), aL E a3 5 (tpP (car t) p 5)]) 0 2 rfl rfl (by omega) (by omega) rfl dP_finish_79 ?_
  refine j_aload_n hg 0 dP_finish_80 rfl rfl ?_
  refine j_get hg (C := RX1) (T := TX1) (N := 6) inX1 3 rfl rfl 3 (by decide) m41 rfl dP_finish_81 ?_
  refine j_iconst hg (v := 3) dP_finish_84 (by decide) ?_
  refine j_aload_n hg 0 dP_finish_85 rfl rfl ?_
  refine j_get hg (C := RX1) (T := TX1) (N := 6) inX1 3 rfl rfl 1 (by decide) m39 rfl dP_finish_86 ?_
  refine j_iconst hg (v := 3) dP_finish_89 (by decide) ?_
  refine j_lald hg (v := (tpT (car t) p) 3) 4 3 rfl rfl (by omega) (by omega) rfl dP_finish_90 ?_
  refine j_bipush hg (v := 18) dP_finish_91 (by decide) ?_
  refine j_lushr hg (v := lushr ((tpT (car t) p) 3) 18) dP_finish_93 rfl ?_
  refine j_aload_n hg 0 dP_finish_94 rfl rfl ?_
  refine j_get hg (C := RX1) (T := TX1) (N := 6) inX1 3 rfl rfl 1 (by decide) m39 rfl dP_finish_95 ?_
  refine j_iconst hg (v := 4) dP_finish_98 (by decide) ?_
  refine j_lald hg (v := (tpT (car t) p) 4) 4 4 rfl rfl (by omega) (by omega) rfl dP_finish_99 ?_
  refine j_bipush hg (v := 8) dP_finish_100 (by decide) ?_
  refine j_lshl hg (v := lshl ((tpT (car t) p) 4) 8) dP_finish_102 rfl ?_
  refine j_lor hg (v := (lushr ((tpT (car t) p) 3) 18) ||| (lshl ((tpT (car t) p) 4) 8)) dP_finish_103 rfl ?_
  refine j_last hg (ws' := [aL E a4 4 (vp_updL (vp_updL (vp_updL (vp_updL wo 0 (((tpT (car t) p) 0) ||| (lshl ((tpT (car t) p) 1) 26))) 1 ((lushr ((tpT (car t) p) 1) 6) ||| (lshl ((tpT (car t) p) 2) 20))) 2 ((lushr ((tpT (car t) p) 2) 12) ||| (lshl ((tpT (car t) p) 3) 14))) 3 ((lushr ((tpT (car t) p) 3) 18) ||| (lshl ((tpT (car t) p) 4) 8))), aI E a5 4 la, aB E rr n row, ob h 1 [.ref a1, .ref a2, .ref a3, .ref a4, .ref a5, .ref a6], aL E a2 5 (tpT (car t) p), aL E a3 5 (tpP (car t) p 5)]) 0 3 rfl rfl (by omega) (by omega) rfl dP_finish_104 ?_
  refine j_lconst hg (v := 0) dP_finish_105 (by decide) ?_
  refine j_lstore_n hg (lv' := [(3, .long 0), (0, .ref h), (1, .ref rr), (2, .int (nI k))]) dP_finish_106 rfl (by decide) rfl ?_
  refine j_iconst hg (v := 0) dP_finish_107 (by decide) ?_
  refine j_istore hg (lv' := [(5, .int 0), (3, .long 0), (0, .ref h), (1, .ref rr), (2, .int (nI k))]) dP_finish_108 (by decide) rfl ?_
  refine j_sub [3, 4, 5, 0, 1, 2] (ws' := [ob h 1 [.ref a1, .ref a2, .ref a3, .ref a4, .ref a5, .ref a6], aL E a2 5 (tpT (car t) p), aL E a3 5 (tpP (car t) p 5), aL E a4 4 (vp_updL (vp_updL (vp_updL (vp_updL wo 0 (((tpT (car t) p) 0) ||| (lshl ((tpT (car t) p) 1) 26))) 1 ((lushr ((tpT (car t) p) 1) 6) ||| (lshl ((tpT (car t) p) 2) 20))) 2 ((lushr ((tpT (car t) p) 2) 12) ||| (lshl ((tpT (car t) p) 3) 14))) 3 ((lushr ((tpT (car t) p) 3) 18) ||| (lshl ((tpT (car t) p) 4) 8))), aI E a5 4 la, aB E rr n row]) rfl (by decide) ?_
  show J E 6 g [ob h 1 [.ref a1, .ref a2, .ref a3, .ref a4, .ref a5, .ref a6], aL E a2 5 (finT t p), aL E a3 5 (tpP (car t) p 5), aL E a4 4 (words4 (finT t p) wo), aI E a5 4 la, aB E rr n row] [(5, .int 0), (3, .long 0), (0, .ref h), (1, .ref rr), (2, .int (nI k))] 0 0 110 []
  refine j_pick [2, 3, 4, 1, 0] (lv' := [(0, .ref h), (1, .ref rr), (2, .int (nI k)), (3, .long 0), (5, .int 0)]) rfl ?_
  have loop : ∀ (zk i : Nat), i + zk = 4 → J E 6 g [ob h 1 [.ref a1, .ref a2, .ref a3, .ref a4, .ref a5, .ref a6], aL E a2 5 (finT t p), aL E a3 5 (tpP (car t) p 5), aL E a4 4 (words4 (finT t p) wo), aI E a5 4 la, aB E rr n ((foS (words4 (finT t p) wo) la row k i).2)] [(0, .ref h), (1, .ref rr), (2, .int (nI k)), (3, .long ((foS (words4 (finT t p) wo) la row k i).1)), (5, .int (nI i))] 0 0 110 [] := by
    intro zk
    induction zk with
    | zero =>
      intro i  hi
      obtain rfl : 4 = i := by omega
      refine j_iload hg 4 dP_finish_110 rfl ?_
      refine j_iconst hg (v := 4) dP_finish_112 (by decide) ?_
      refine j_nge_t hg (tgt := 166) 4 4 rfl rfl (by omega) (by omega) (by omega) dP_finish_113 (by decide) ?_
      exact j_vret hg hR () trivial rfl [0, 1, 2, 3, 4, 5] rfl (by decide) (by decide) (by decide) dP_finish_166
    | succ zk ih =>
      intro i  hi
      refine j_iload hg 4 dP_finish_110 rfl ?_
      refine j_iconst hg (v := 4) dP_finish_112 (by decide) ?_
      refine j_nge_f hg (tgt := 166) i 4 rfl rfl (by omega) (by omega) (by omega) dP_finish_113 (by decide) ?_
      refine j_lload_n hg 3 dP_finish_116 rfl rfl ?_
      refine j_aload_n hg 0 dP_finish_117 rfl rfl ?_
      refine j_get hg (C := RX1) (T := TX1) (N := 6) inX1 0 rfl rfl 3 (by decide) m41 rfl dP_finish_118 ?_
      refine j_iload hg 4 dP_finish_121 rfl ?_
      refine j_lald hg (v := (words4 (finT t p) wo) i) 3 i rfl rfl (by omega) (by omega) rfl dP_finish_123 ?_
      refine j_ldc2 hg (v := 4294967295) m206 dP_finish_124 ?_
      refine j_land hg (v := ((words4 (finT t p) wo) i) &&& 4294967295) dP_finish_127 rfl ?_
      refine j_aload_n hg 0 dP_finish_128 rfl rfl ?_
      refine j_get hg (C := RX1) (T := TX1) (N := 6) inX1 0 rfl rfl 4 (by decide) m42 rfl dP_finish_129 ?_
      refine j_iload hg 4 dP_finish_132 rfl ?_
      refine j_iald hg (v := la i) 4 i rfl rfl (by omega) (by omega) rfl dP_finish_134 ?_
      refine j_i2l hg (v := (la i).toInt64) dP_finish_135 rfl ?_
      refine j_ldc2 hg (v := 4294967295) m206 dP_finish_136 ?_
      refine j_land hg (v := ((la i).toInt64) &&& 4294967295) dP_finish_139 rfl ?_
      refine j_ladd hg (v := (((words4 (finT t p) wo) i) &&& 4294967295) + (((la i).toInt64) &&& 4294967295)) dP_finish_140 rfl ?_
      refine j_ladd hg (v := ((foS (words4 (finT t p) wo) la row k i).1) + ((((words4 (finT t p) wo) i) &&& 4294967295) + (((la i).toInt64) &&& 4294967295))) dP_finish_141 rfl ?_
      refine j_lstore_n hg (lv' := [(3, .long (((foS (words4 (finT t p) wo) la row k i).1) + ((((words4 (finT t p) wo) i) &&& 4294967295) + (((la i).toInt64) &&& 4294967295)))), (0, .ref h), (1, .ref rr), (2, .int (nI k)), (5, .int (nI i))]) dP_finish_142 rfl (by decide) rfl ?_
      refine j_aload_n hg 2 dP_finish_143 rfl rfl ?_
      refine j_iload_n hg 3 dP_finish_144 rfl rfl ?_
      refine j_iconst hg (v := 4) dP_finish_145 (by decide) ?_
      refine j_iload hg 4 dP_finish_146 rfl ?_
      refine j_imul hg (v := nI (4 * i)) dP_finish_148 (pk_mul 4 i) ?_
      refine j_iadd hg (v := nI (k + (4 * i))) dP_finish_149 (nI_add k (4 * i)) ?_
      refine j_lload_n hg 0 dP_finish_150 rfl rfl ?_
      refine j_l2i hg (v := (((foS (words4 (finT t p) wo) la row k i).1) + ((((words4 (finT t p) wo) i) &&& 4294967295) + (((la i).toInt64) &&& 4294967295))).toInt32) dP_finish_151 rfl ?_
      refine j_callSN hg (n := 3) (y := yS_writeLowestFirst) (rm := rm_S_writeLowestFirst) (Ws := (cT yS_writeLowestFirst cS_writeLowestFirst 3 none)) (As := [.ref rr, .int (nI (k + (4 * i))), .int ((((foS (words4 (finT t p) wo) la row k i).1) + ((((words4 (finT t p) wo) i) &&& 4294967295) + (((la i).toInt64) &&& 4294967295))).toInt32)]) (rest := []) (wr := [ob h 1 [.ref a1, .ref a2, .ref a3, .ref a4, .ref a5, .ref a6], aL E a2 5 (finT t p), aL E a3 5 (tpP (car t) p 5), aL E a4 4 (words4 (finT t p) wo), aI E a5 4 la]) (host := RX3) (c_S_writeLowestFirst l E rr n ((foS (words4 (finT t p) wo) la row k i).2) (k + (4 * i)) ((((foS (words4 (finT t p) wo) la row k i).1) + ((((words4 (finT t p) wo) i) &&& 4294967295) + (((la i).toInt64) &&& 4294967295))).toInt32) (by omega) (by omega)) (gdT m187) rfl m1 (by decide +kernel) m186 (by decide +kernel) ⟨by decide, by decide⟩ rfl rfl (Nat.le_of_ble_eq_true rfl) ⟨by decide, by decide⟩ [5] [0, 1, 2, 3, 4] rfl rfl (by decide) (by decide) (by decide) dP_finish_152 (fun _ _ => ?_)
      show J E 6 g [ob h 1 [.ref a1, .ref a2, .ref a3, .ref a4, .ref a5, .ref a6], aL E a2 5 (finT t p), aL E a3 5 (tpP (car t) p 5), aL E a4 4 (words4 (finT t p) wo), aI E a5 4 la, aB E rr n (wl ((foS (words4 (finT t p) wo) la row k i).2) (k + (4 * i)) ((((foS (words4 (finT t p) wo) la row k i).1) + ((((words4 (finT t p) wo) i) &&& 4294967295) + (((la i).toInt64) &&& 4294967295))).toInt32))] [(3, .long (((foS (words4 (finT t p) wo) la row k i).1) + ((((words4 (finT t p) wo) i) &&& 4294967295) + (((la i).toInt64) &&& 4294967295)))), (0, .ref h), (1, .ref rr), (2, .int (nI k)), (5, .int (nI i))] 0 0 155 []
      refine j_lload_n hg 0 dP_finish_155 rfl rfl ?_
      refine j_bipush hg (v := 32) dP_finish_156 (by decide) ?_
      refine j_lushr hg (v := lushr (((foS (words4 (finT t p) wo) la row k i).1) + ((((words4 (finT t p) wo) i) &&& 4294967295) + (((la i).toInt64) &&& 4294967295))) 32) dP_finish_158 rfl ?_
      refine j_lstore_n hg (lv' := [(3, .long (lushr (((foS (words4 (finT t p) wo) la row k i).1) + ((((words4 (finT t p) wo) i) &&& 4294967295) + (((la i).toInt64) &&& 4294967295))) 32)), (0, .ref h), (1, .ref rr), (2, .int (nI k)), (5, .int (nI i))]) dP_finish_159 rfl (by decide) rfl ?_
      refine j_iinc hg (kq := 4) (v := nI (i + 1)) (lv' := [(5, .int (nI (i + 1))), (3, .long (lushr (((foS (words4 (finT t p) wo) la row k i).1) + ((((words4 (finT t p) wo) i) &&& 4294967295) + (((la i).toInt64) &&& 4294967295))) 32)), (0, .ref h), (1, .ref rr), (2, .int (nI k))]) dP_finish_160 rfl (nI_add i 1) (by decide) rfl ?_
      refine j_goto hg (tgt := 110) dP_finish_163 (by decide) ?_
      refine j_pick [2, 3, 4, 1, 0] (lv' := [(0, .ref h), (1, .ref rr), (2, .int (nI k)), (3, .long (lushr (((foS (words4 (finT t p) wo) la row k i).1) + ((((words4 (finT t p) wo) i) &&& 4294967295) + (((la i).toInt64) &&& 4294967295))) 32)), (5, .int (nI (i + 1)))]) rfl ?_
      exact ih (i + 1) (by omega)
  exact loop (4) 0 (by omega)

def rm_P_init : Room := { frames := 1, cells := 6, slots := 40, locals := 12 }
set_option maxHeartbeats 1000000 in
set_option maxRecDepth 100000 in
theorem c_P_init (l : Launch) (E : Ev) (h : Nat) : MC E l yP_init (cT yP_init cP_init 1 none) rm_P_init [.ref h] [ob h 1 [.null, .null, .null, .null, .null, .null]] (Nat × Nat × Nat × Nat × Nat × Nat) (fun _ => True) (fun u => none) (fun u => [ob h 1 [.ref u.1, .ref u.2.1, .ref u.2.2.1, .ref u.2.2.2.1, .ref u.2.2.2.2.1, .ref u.2.2.2.2.2], aL E u.1 5 (fun _ => 0), aL E u.2.1 5 (fun _ => 0), aL E u.2.2.1 5 (fun _ => 0), aL E u.2.2.2.1 4 (fun _ => 0), aI E u.2.2.2.2.1 4 (fun _ => 0), aB E u.2.2.2.2.2 17 (fun _ => 0)]) := by
  refine MC.of (cc := cP_init) (nL := 1) (ret := none) (by decide) rfl cT_in (Nat.le_of_ble_eq_true rfl) (fun g hg hR => ?_)
  show J E 1 g [ob h 1 [.null, .null, .null, .null, .null, .null]] [(0, .ref h)] 0 0 0 []
  refine j_aload_n hg 0 dP_init_0 rfl rfl ?_
  refine j_objInit hg m37 m15 m16 dP_init_1 (Nat.le_of_ble_eq_true rfl) (Nat.le_of_ble_eq_true rfl) ?_
  refine j_aload_n hg 0 dP_init_4 rfl rfl ?_
  refine j_iconst hg (v := 5) dP_init_5 (by decide) ?_
  refine j_newL hg 5 m57 rfl (by decide) (by decide) (by decide) dP_init_6 (fun q1 => ?_)
  show J E 1 g [ob h 1 [.null, .null, .null, .null, .null, .null], aL E q1 5 (fun _ => 0)] [(0, .ref h)] 1 5 8 [.ref q1, .ref h]
  refine j_putF hg hR (C := RX1) (T := TX1) (N := 6) (ty := (.array .long)) (ws' := [ob h 1 [.ref q1, .null, .null, .null, .null, .null], aL E q1 5 (fun _ => 0)]) inX1 tyX1 tyX1_ok nmX1 0 rfl rfl 0 (by decide) m38 rfl rfl (by decide +kernel) rfl rfl (Nat.le_of_ble_eq_true rfl) rfl dP_init_8 ?_
  refine j_aload_n hg 0 dP_init_11 rfl rfl ?_
  refine j_iconst hg (v := 5) dP_init_12 (by decide) ?_
  refine j_newL hg 5 m57 rfl (by decide) (by decide) (by decide) dP_init_13 (fun q2 => ?_)
  show J E 1 g [ob h 1 [.ref q1, .null, .null, .null, .null, .null], aL E q1 5 (fun _ => 0), aL E q2 5 (fun _ => 0)] [(0, .ref h)] 2 10 15 [.ref q2, .ref h]
  refine j_putF hg hR (C := RX1) (T := TX1) (N := 6) (ty := (.array .long)) (ws' := [ob h 1 [.ref q1, .ref q2, .null, .null, .null, .null], aL E q1 5 (fun _ => 0), aL E q2 5 (fun _ => 0)]) inX1 tyX1 tyX1_ok nmX1 0 rfl rfl 1 (by decide) m39 rfl rfl (by decide +kernel) rfl rfl (Nat.le_of_ble_eq_true rfl) rfl dP_init_15 ?_
  refine j_aload_n hg 0 dP_init_18 rfl rfl ?_
  refine j_iconst hg (v := 5) dP_init_19 (by decide) ?_
  refine j_newL hg 5 m57 rfl (by decide) (by decide) (by decide) dP_init_20 (fun q3 => ?_)
  show J E 1 g [ob h 1 [.ref q1, .ref q2, .null, .null, .null, .null], aL E q1 5 (fun _ => 0), aL E q2 5 (fun _ => 0), aL E q3 5 (fun _ => 0)] [(0, .ref h)] 3 15 22 [.ref q3, .ref h]
  refine j_putF hg hR (C := RX1) (T := TX1) (N := 6) (ty := (.array .long)) (ws' := [ob h 1 [.ref q1, .ref q2, .ref q3, .null, .null, .null], aL E q1 5 (fun _ => 0), aL E q2 5 (fun _ => 0), aL E q3 5 (fun _ => 0)]) inX1 tyX1 tyX1_ok nmX1 0 rfl rfl 2 (by decide) m40 rfl rfl (by decide +kernel) rfl rfl (Nat.le_of_ble_eq_true rfl) rfl dP_init_22 ?_
  refine j_aload_n hg 0 dP_init_25 rfl rfl ?_
  refine j_iconst hg (v := 4) dP_init_26 (by decide) ?_
  refine j_newL hg 4 m57 rfl (by decide) (by decide) (by decide) dP_init_27 (fun q4 => ?_)
  show J E 1 g [ob h 1 [.ref q1, .ref q2, .ref q3, .null, .null, .null], aL E q1 5 (fun _ => 0), aL E q2 5 (fun _ => 0), aL E q3 5 (fun _ => 0), aL E q4 4 (fun _ => 0)] [(0, .ref h)] 4 19 29 [.ref q4, .ref h]
  refine j_putF hg hR (C := RX1) (T := TX1) (N := 6) (ty := (.array .long)) (ws' := [ob h 1 [.ref q1, .ref q2, .ref q3, .ref q4, .null, .null], aL E q1 5 (fun _ => 0), aL E q2 5 (fun _ => 0), aL E q3 5 (fun _ => 0), aL E q4 4 (fun _ => 0)]) inX1 tyX1 tyX1_ok nmX1 0 rfl rfl 3 (by decide) m41 rfl rfl (by decide +kernel) rfl rfl (Nat.le_of_ble_eq_true rfl) rfl dP_init_29 ?_
  refine j_aload_n hg 0 dP_init_32 rfl rfl ?_
  refine j_iconst hg (v := 4) dP_init_33 (by decide) ?_
  refine j_newI hg 4 m31 rfl (by decide) (by decide) (by decide) dP_init_34 (fun q5 => ?_)
  show J E 1 g [ob h 1 [.ref q1, .ref q2, .ref q3, .ref q4, .null, .null], aL E q1 5 (fun _ => 0), aL E q2 5 (fun _ => 0), aL E q3 5 (fun _ => 0), aL E q4 4 (fun _ => 0), aI E q5 4 (fun _ => 0)] [(0, .ref h)] 5 23 36 [.ref q5, .ref h]
  refine j_putF hg hR (C := RX1) (T := TX1) (N := 6) (ty := (.array .int)) (ws' := [ob h 1 [.ref q1, .ref q2, .ref q3, .ref q4, .ref q5, .null], aL E q1 5 (fun _ => 0), aL E q2 5 (fun _ => 0), aL E q3 5 (fun _ => 0), aL E q4 4 (fun _ => 0), aI E q5 4 (fun _ => 0)]) inX1 tyX1 tyX1_ok nmX1 0 rfl rfl 4 (by decide) m42 rfl rfl (by decide +kernel) rfl rfl (Nat.le_of_ble_eq_true rfl) rfl dP_init_36 ?_
  refine j_aload_n hg 0 dP_init_39 rfl rfl ?_
  refine j_bipush hg (v := 17) dP_init_40 (by decide) ?_
  refine j_newB hg 17 m30 rfl (by decide) (by decide) (by decide) dP_init_42 (fun q6 => ?_)
  show J E 1 g [ob h 1 [.ref q1, .ref q2, .ref q3, .ref q4, .ref q5, .null], aL E q1 5 (fun _ => 0), aL E q2 5 (fun _ => 0), aL E q3 5 (fun _ => 0), aL E q4 4 (fun _ => 0), aI E q5 4 (fun _ => 0), aB E q6 17 (fun _ => 0)] [(0, .ref h)] 6 40 44 [.ref q6, .ref h]
  refine j_putF hg hR (C := RX1) (T := TX1) (N := 6) (ty := (.array .byte)) (ws' := [ob h 1 [.ref q1, .ref q2, .ref q3, .ref q4, .ref q5, .ref q6], aL E q1 5 (fun _ => 0), aL E q2 5 (fun _ => 0), aL E q3 5 (fun _ => 0), aL E q4 4 (fun _ => 0), aI E q5 4 (fun _ => 0), aB E q6 17 (fun _ => 0)]) inX1 tyX1 tyX1_ok nmX1 0 rfl rfl 5 (by decide) m43 rfl rfl (by decide +kernel) rfl rfl (Nat.le_of_ble_eq_true rfl) rfl dP_init_44 ?_
  exact j_vret hg hR (q1, q2, q3, q4, q5, q6) trivial rfl [0, 1, 2, 3, 4, 5, 6] rfl (by decide) (by decide) (by decide) dP_init_47

def rm_H_init : Room := { frames := 1, cells := 4, slots := 144, locals := 12 }
set_option maxHeartbeats 1000000 in
set_option maxRecDepth 100000 in
theorem c_H_init (l : Launch) (E : Ev) (h : Nat) : MC E l yH_init (cT yH_init cH_init 1 none) rm_H_init [.ref h] [ob h 2 [.null, .null, .null, .null, .int 0, .int 0]] (Nat × Nat × Nat × Nat) (fun _ => True) (fun u => none) (fun u => [ob h 2 [.ref u.1, .ref u.2.1, .ref u.2.2.1, .ref u.2.2.2, .int 0, .int 0], aI E u.1 8 (fun _ => 0), aI E u.2.1 64 (fun _ => 0), aI E u.2.2.1 8 (fun _ => 0), aB E u.2.2.2 64 (fun _ => 0)]) := by
  refine MC.of (cc := cH_init) (nL := 1) (ret := none) (by decide) rfl cT_in (Nat.le_of_ble_eq_true rfl) (fun g hg hR => ?_)
  show J E 1 g [ob h 2 [.null, .null, .null, .null, .int 0, .int 0]] [(0, .ref h)] 0 0 0 []
  refine j_aload_n hg 0 dH_init_0 rfl rfl ?_
  refine j_objInit hg m63 m15 m16 dH_init_1 (Nat.le_of_ble_eq_true rfl) (Nat.le_of_ble_eq_true rfl) ?_
  refine j_aload_n hg 0 dH_init_4 rfl rfl ?_
  refine j_bipush hg (v := 8) dH_init_5 (by decide) ?_
  refine j_newI hg 8 m31 rfl (by decide) (by decide) (by decide) dH_init_7 (fun q1 => ?_)
  show J E 1 g [ob h 2 [.null, .null, .null, .null, .int 0, .int 0], aI E q1 8 (fun _ => 0)] [(0, .ref h)] 1 8 9 [.ref q1, .ref h]
  refine j_putF hg hR (C := RX2) (T := TX2) (N := 6) (ty := (.array .int)) (ws' := [ob h 2 [.ref q1, .null, .null, .null, .int 0, .int 0], aI E q1 8 (fun _ => 0)]) inX2 tyX2 tyX2_ok nmX2 0 rfl rfl 0 (by decide) m64 rfl rfl (by decide +kernel) rfl rfl (Nat.le_of_ble_eq_true rfl) rfl dH_init_9 ?_
  refine j_aload_n hg 0 dH_init_12 rfl rfl ?_
  refine j_bipush hg (v := 64) dH_init_13 (by decide) ?_
  refine j_newI hg 64 m31 rfl (by decide) (by decide) (by decide) dH_init_15 (fun q2 => ?_)
  show J E 1 g [ob h 2 [.ref q1, .null, .null, .null, .int 0, .int 0], aI E q1 8 (fun _ => 0), aI E q2 64 (fun _ => 0)] [(0, .ref h)] 2 72 17 [.ref q2, .ref h]
  refine j_putF hg hR (C := RX2) (T := TX2) (N := 6) (ty := (.array .int)) (ws' := [ob h 2 [.ref q1, .ref q2, .null, .null, .int 0, .int 0], aI E q1 8 (fun _ => 0), aI E q2 64 (fun _ => 0)]) inX2 tyX2 tyX2_ok nmX2 0 rfl rfl 1 (by decide) m65 rfl rfl (by decide +kernel) rfl rfl (Nat.le_of_ble_eq_true rfl) rfl dH_init_17 ?_
  refine j_aload_n hg 0 dH_init_20 rfl rfl ?_
  refine j_bipush hg (v := 8) dH_init_21 (by decide) ?_
  refine j_newI hg 8 m31 rfl (by decide) (by decide) (by decide) dH_init_23 (fun q3 => ?_)
  show J E 1 g [ob h 2 [.ref q1, .ref q2, .null, .null, .int 0, .int 0], aI E q1 8 (fun _ => 0), aI E q2 64 (fun _ => 0), aI E q3 8 (fun _ => 0)] [(0, .ref h)] 3 80 25 [.ref q3, .ref h]
  refine j_putF hg hR (C := RX2) (T := TX2) (N := 6) (ty := (.array .int)) (ws' := [ob h 2 [.ref q1, .ref q2, .ref q3, .null, .int 0, .int 0], aI E q1 8 (fun _ => 0), aI E q2 64 (fun _ => 0), aI E q3 8 (fun _ => 0)]) inX2 tyX2 tyX2_ok nmX2 0 rfl rfl 2 (by decide) m66 rfl rfl (by decide +kernel) rfl rfl (Nat.le_of_ble_eq_true rfl) rfl dH_init_25 ?_
  refine j_aload_n hg 0 dH_init_28 rfl rfl ?_
  refine j_bipush hg (v := 64) dH_init_29 (by decide) ?_
  refine j_newB hg 64 m30 rfl (by decide) (by decide) (by decide) dH_init_31 (fun q4 => ?_)
  show J E 1 g [ob h 2 [.ref q1, .ref q2, .ref q3, .null, .int 0, .int 0], aI E q1 8 (fun _ => 0), aI E q2 64 (fun _ => 0), aI E q3 8 (fun _ => 0), aB E q4 64 (fun _ => 0)] [(0, .ref h)] 4 144 33 [.ref q4, .ref h]
  refine j_putF hg hR (C := RX2) (T := TX2) (N := 6) (ty := (.array .byte)) (ws' := [ob h 2 [.ref q1, .ref q2, .ref q3, .ref q4, .int 0, .int 0], aI E q1 8 (fun _ => 0), aI E q2 64 (fun _ => 0), aI E q3 8 (fun _ => 0), aB E q4 64 (fun _ => 0)]) inX2 tyX2 tyX2_ok nmX2 0 rfl rfl 3 (by decide) m67 rfl rfl (by decide +kernel) rfl rfl (Nat.le_of_ble_eq_true rfl) rfl dH_init_33 ?_
  refine j_aload_n hg 0 dH_init_36 rfl rfl ?_
  refine j_iconst hg (v := 0) dH_init_37 (by decide) ?_
  refine j_put hg (C := RX2) (T := TX2) (N := 6) (ty := .int) (ws' := [ob h 2 [.ref q1, .ref q2, .ref q3, .ref q4, .int 0, .int 0], aI E q1 8 (fun _ => 0), aI E q2 64 (fun _ => 0), aI E q3 8 (fun _ => 0), aB E q4 64 (fun _ => 0)]) inX2 tyX2 tyX2_ok nmX2 0 rfl rfl 4 (by decide) m68 rfl (by decide +kernel) rfl rfl (Nat.le_of_ble_eq_true rfl) rfl dH_init_38 ?_
  refine j_aload_n hg 0 dH_init_41 rfl rfl ?_
  refine j_iconst hg (v := 0) dH_init_42 (by decide) ?_
  refine j_put hg (C := RX2) (T := TX2) (N := 6) (ty := .int) (ws' := [ob h 2 [.ref q1, .ref q2, .ref q3, .ref q4, .int 0, .int 0], aI E q1 8 (fun _ => 0), aI E q2 64 (fun _ => 0), aI E q3 8 (fun _ => 0), aB E q4 64 (fun _ => 0)]) inX2 tyX2 tyX2_ok nmX2 0 rfl rfl 5 (by decide) m69 rfl (by decide +kernel) rfl rfl (Nat.le_of_ble_eq_true rfl) rfl dH_init_43 ?_
  exact j_vret hg hR (q1, q2, q3, q4) trivial rfl [0, 1, 2, 3, 4] rfl (by decide) (by decide) (by decide) dH_init_46
