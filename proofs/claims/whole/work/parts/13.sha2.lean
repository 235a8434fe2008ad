/-! SHA-256 of the class: start, add, addMasked, finish. -/
theorem fit_sB {x : Int32} (h : fits .byte (.int x) = true) : sB x = x := by
  have h1 : (-128 : Int32).toInt = -128 := by decide
  have h2 : (127 : Int32).toInt = 127 := by decide
  simp only [fits, Bool.and_eq_true, decide_eq_true_eq, Int32.le_iff_toInt_le, h1, h2] at h
  apply Int32.toInt_inj.mp
  show (x.toInt8.toInt32).toInt = x.toInt
  rw [Int8.toInt_toInt32, Int32.toInt_toInt8]
  exact Int.bmod_eq_of_le (by omega) (by omega)
theorem Byt.nar {f : Nat → Int32} (h : Byt f) (j : Nat) : vp_nar .byte (f j) = f j := by rw [vp_nar_byte]; exact fit_sB (h j)
theorem m56 : ∀ k : Nat, k < 64 → ((56 : Int32) - nI k) &&& 63 = nI ((120 - k) % 64) := by decide
def stF (u : HS) : HS := (va_cpy tFIRST u.1 0 0 8, u.2.1, u.2.2.1, u.2.2.2.1, 0, 0)
noncomputable def addF (u : HS) (row : Nat → Int32) : Nat → HS
  | 0 => u
  | i + 1 => abF (addF u row i) (row i)
theorem addF_lt {u : HS} {row : Nat → Int32} (h : u.2.2.2.2.1 < 64) : ∀ i, (addF u row i).2.2.2.2.1 < 64
  | 0 => h
  | i + 1 => abF_lt (addF_lt h i)
def mskF (fk : Nat → Int32) (mk : Int32) (i : Nat) : Int32 := sB (if i < 32 then fk i ^^^ mk else mk)
noncomputable def zerF (u : HS) : Nat → HS
  | 0 => u
  | i + 1 => abF (zerF u i) 0
theorem zerF_lt {u : HS} (h : u.2.2.2.2.1 < 64) : ∀ i, (zerF u i).2.2.2.2.1 < 64
  | 0 => h
  | i + 1 => abF_lt (zerF_lt h i)
noncomputable def padF (u : HS) : HS := zerF (abF u (-128)) ((120 - (abF u (-128)).2.2.2.2.1) % 64 + 4)
noncomputable def lenF (u : HS) (x : Int32) : HS := abF (abF (abF (abF u (sB (ushr x 24))) (sB (ushr x 16))) (sB (ushr x 8))) (sB (ushr x 0))
noncomputable def finF (u : HS) : HS := lenF (padF u) (nI (u.2.2.2.2.2 * 8))
theorem padF_lt {u : HS} (h : u.2.2.2.2.1 < 64) : (padF u).2.2.2.2.1 < 64 := zerF_lt (abF_lt h) _
theorem finF_lt {u : HS} (h : u.2.2.2.2.1 < 64) : (finF u).2.2.2.2.1 < 64 := abF_lt (abF_lt (abF_lt (abF_lt (padF_lt h))))
def outH (row st : Nat → Int32) : Nat → Nat → Int32
  | 0 => row
  | i + 1 => wh (outH row st i) (4 * i) (st i)

def rm_H_start : Room := { frames := 1, cells := 0, slots := 0, locals := 18 }
set_option maxHeartbeats 1000000 in
set_option maxRecDepth 100000 in
theorem c_H_start (l : Launch) (E : Ev) (h a1 a2 a3 a4 : Nat) (u : HS) : MC E l yH_start (cT yH_start cH_start 1 none) rm_H_start [.ref h] [ob h 2 [.ref a1, .ref a2, .ref a3, .ref a4, .int (nI u.2.2.2.2.1), .int (nI u.2.2.2.2.2)], aI E a1 8 u.1, aI E a2 64 u.2.1, aI E a3 8 u.2.2.1, aB E a4 64 u.2.2.2.1] Unit (fun _ => True) (fun _ => none) (fun _ => [ob h 2 [.ref a1, .ref a2, .ref a3, .ref a4, .int (nI ((stF u).2.2.2.2.1)), .int (nI ((stF u).2.2.2.2.2))], aI E a1 8 ((stF u).1), aI E a2 64 ((stF u).2.1), aI E a3 8 ((stF u).2.2.1), aB E a4 64 ((stF u).2.2.2.1)]) := by
  refine MC.of (cc := cH_start) (nL := 1) (ret := none) (by decide) rfl cT_in (Nat.le_of_ble_eq_true rfl) (fun g hg hR => ?_)
  show J E 1 g [ob h 2 [.ref a1, .ref a2, .ref a3, .ref a4, .int (nI u.2.2.2.2.1), .int (nI u.2.2.2.2.2)], aI E a1 8 u.1, aI E a2 64 u.2.1, aI E a3 8 u.2.2.1, aB E a4 64 u.2.2.2.1] [(0, .ref h)] 0 0 0 []
  refine j_gets hg 0 rfl m274 dH_start_0 ?_
  refine j_iconst hg (v := 0) dH_start_3 (by decide) ?_
  refine j_aload_n hg 0 dH_start_4 rfl rfl ?_
  refine j_get hg (C := RX2) (T := TX2) (N := 6) inX2 0 rfl rfl 0 (by decide) m64 rfl dH_start_5 ?_
  refine j_iconst hg (v := 0) dH_start_8 (by decide) ?_
  refine j_bipush hg (v := 8) dH_start_9 (by decide) ?_
  refine j_copyT hg (ws' := [ob h 2 [.ref a1, .ref a2, .ref a3, .ref a4, .int (nI u.2.2.2.2.1), .int (nI u.2.2.2.2.2)], aI E a1 8 (va_cpy tFIRST u.1 0 0 8), aI E a2 64 u.2.1, aI E a3 8 u.2.2.1, aB E a4 64 u.2.2.2.1]) (f := tFIRST) 0 1 0 0 8 ⟨m276, m141, m140, m6⟩ rfl rfl rfl rfl rfl (by omega) (by omega) (by omega) (by omega) (Nat.le_of_ble_eq_true rfl) (Nat.le_of_ble_eq_true rfl) rfl dH_start_11 ?_
  refine j_aload_n hg 0 dH_start_14 rfl rfl ?_
  refine j_iconst hg (v := 0) dH_start_15 (by decide) ?_
  refine j_put hg (C := RX2) (T := TX2) (N := 6) (ty := .int) (ws' := [ob h 2 [.ref a1, .ref a2, .ref a3, .ref a4, .int 0, .int (nI u.2.2.2.2.2)], aI E a1 8 (va_cpy tFIRST u.1 0 0 8), aI E a2 64 u.2.1, aI E a3 8 u.2.2.1, aB E a4 64 u.2.2.2.1]) inX2 tyX2 tyX2_ok nmX2 0 rfl rfl 4 (by decide) m68 rfl (by decide +kernel) rfl rfl (Nat.le_of_ble_eq_true rfl) rfl dH_start_16 ?_
  refine j_aload_n hg 0 dH_start_19 rfl rfl ?_
  refine j_iconst hg (v := 0) dH_start_20 (by decide) ?_
  refine j_put hg (C := RX2) (T := TX2) (N := 6) (ty := .int) (ws' := [ob h 2 [.ref a1, .ref a2, .ref a3, .ref a4, .int 0, .int 0], aI E a1 8 (va_cpy tFIRST u.1 0 0 8), aI E a2 64 u.2.1, aI E a3 8 u.2.2.1, aB E a4 64 u.2.2.2.1]) inX2 tyX2 tyX2_ok nmX2 0 rfl rfl 5 (by decide) m69 rfl (by decide +kernel) rfl rfl (Nat.le_of_ble_eq_true rfl) rfl dH_start_21 ?_
  exact j_vret hg hR () trivial rfl [0, 1, 2, 3, 4] rfl (by decide) (by decide) (by decide) dH_start_24

def rm_H_add : Room := { frames := 4, cells := 0, slots := 0, locals := 91 }
set_option maxHeartbeats 1000000 in
set_option maxRecDepth 100000 in
theorem c_H_add (l : Launch) (E : Ev) (h a1 a2 a3 a4 : Nat) (u : HS) (rr n m : Nat) (row : Nat → Int32) (hk : u.2.2.2.2.1 < 64) (hb : Byt row) (h1 : m ≤ n) (h2 : n < 2147483648) : MC E l yH_add (cT yH_add cH_add 4 none) rm_H_add [.ref h, .ref rr, .int (nI m)] [ob h 2 [.ref a1, .ref a2, .ref a3, .ref a4, .int (nI u.2.2.2.2.1), .int (nI u.2.2.2.2.2)], aI E a1 8 u.1, aI E a2 64 u.2.1, aI E a3 8 u.2.2.1, aB E a4 64 u.2.2.2.1, aB E rr n row] Unit (fun _ => True) (fun _ => none) (fun _ => [ob h 2 [.ref a1, .ref a2, .ref a3, .ref a4, .int (nI ((addF u row m).2.2.2.2.1)), .int (nI ((addF u row m).2.2.2.2.2))], aI E a1 8 ((addF u row m).1), aI E a2 64 ((addF u row m).2.1), aI E a3 8 ((addF u row m).2.2.1), aB E a4 64 ((addF u row m).2.2.2.1), aB E rr n row]) := by
  refine MC.of (cc := cH_add) (nL := 4) (ret := none) (by decide) rfl cT_in (Nat.le_of_ble_eq_true rfl) (fun g hg hR => ?_)
  show J E 4 g [ob h 2 [.ref a1, .ref a2, .ref a3, .ref a4, .int (nI u.2.2.2.2.1), .int (nI u.2.2.2.2.2)], aI E a1 8 u.1, aI E a2 64 u.2.1, aI E a3 8 u.2.2.1, aB E a4 64 u.2.2.2.1, aB E rr n row] [(0, .ref h), (1, .ref rr), (2, .int (nI m))] 0 0 0 []
  refine j_iconst hg (v := 0) dH_add_0 (by decide) ?_
  refine j_istore_n hg (lv' := [(3, .int 0), (0, .ref h), (1, .ref rr), (2, .int (nI m))]) dH_add_1 rfl (by decide) rfl ?_
  refine j_pick [1, 2, 3, 0] (lv' := [(0, .ref h), (1, .ref rr), (2, .int (nI m)), (3, .int 0)]) rfl ?_
  have loop : ∀ (zk i : Nat), i + zk = m → J E 4 g [ob h 2 [.ref a1, .ref a2, .ref a3, .ref a4, .int (nI ((addF u row i).2.2.2.2.1)), .int (nI ((addF u row i).2.2.2.2.2))], aI E a1 8 ((addF u row i).1), aI E a2 64 ((addF u row i).2.1), aI E a3 8 ((addF u row i).2.2.1), aB E a4 64 ((addF u row i).2.2.2.1), aB E rr n row] [(0, .ref h), (1, .ref rr), (2, .int (nI m)), (3, .int (nI i))] 0 0 2 [] := by
    intro zk
    induction zk with
    | zero =>
      intro i  hi
      obtain rfl : m = i := by omega
      refine j_iload_n hg 3 dH_add_2 rfl rfl ?_
      refine j_iload_n hg 2 dH_add_3 rfl rfl ?_
      refine j_nge_t hg (tgt := 20) m m rfl rfl (by omega) (by omega) (by omega) dH_add_4 (by decide) ?_
      exact j_vret hg hR () trivial rfl [0, 1, 2, 3, 4, 5] rfl (by decide) (by decide) (by decide) dH_add_20
    | succ zk ih =>
      intro i  hi
      refine j_iload_n hg 3 dH_add_2 rfl rfl ?_
      refine j_iload_n hg 2 dH_add_3 rfl rfl ?_
      refine j_nge_f hg (tgt := 20) i m rfl rfl (by omega) (by omega) (by omega) dH_add_4 (by decide) ?_
      refine j_aload_n hg 0 dH_add_7 rfl rfl ?_
      refine j_aload_n hg 1 dH_add_8 rfl rfl ?_
      refine j_iload_n hg 3 dH_add_9 rfl rfl ?_
      refine j_bald hg (v := row i) 5 i rfl rfl (by omega) (by omega) rfl dH_add_10 ?_
      refine j_callV hg (n := 1) (y := yH_addByte) (rm := rm_H_addByte) (Ws := (cT yH_addByte cH_addByte 2 none)) (As := [.int (row i)]) (rest := []) (wr := [aB E rr n row]) 0 rfl rfl (c_H_addByte l E h a1 a2 a3 a4 ((addF u row i)) (row i) (hb.nar i) (addF_lt hk i)) (gdV m281 m283 ms14 m4 m284) rfl (by decide +kernel) ⟨by decide, by decide⟩ rfl rfl (Nat.le_of_ble_eq_true rfl) ⟨by decide, by decide⟩ [0, 1, 2, 3, 4] [5] rfl rfl (by decide) (by decide) (by decide) dH_add_11 (fun _ _ => ?_)
      show J E 4 g [aB E rr n row, ob h 2 [.ref a1, .ref a2, .ref a3, .ref a4, .int (nI ((abF ((addF u row i)) (row i)).2.2.2.2.1)), .int (nI ((abF ((addF u row i)) (row i)).2.2.2.2.2))], aI E a1 8 ((abF ((addF u row i)) (row i)).1), aI E a2 64 ((abF ((addF u row i)) (row i)).2.1), aI E a3 8 ((abF ((addF u row i)) (row i)).2.2.1), aB E a4 64 ((abF ((addF u row i)) (row i)).2.2.2.1)] [(0, .ref h), (1, .ref rr), (2, .int (nI m)), (3, .int (nI i))] 0 0 14 []
      refine j_iinc hg (kq := 3) (v := nI (i + 1)) (lv' := [(3, .int (nI (i + 1))), (0, .ref h), (1, .ref rr), (2, .int (nI m))]) dH_add_14 rfl (nI_add i 1) (by decide) rfl ?_
      refine j_goto hg (tgt := 2) dH_add_17 (by decide) ?_
      refine j_sub [1, 2, 3, 4, 5, 0] (ws' := [ob h 2 [.ref a1, .ref a2, .ref a3, .ref a4, .int (nI ((abF ((addF u row i)) (row i)).2.2.2.2.1)), .int (nI ((abF ((addF u row i)) (row i)).2.2.2.2.2))], aI E a1 8 ((abF ((addF u row i)) (row i)).1), aI E a2 64 ((abF ((addF u row i)) (row i)).2.1), aI E a3 8 ((abF ((addF u row i)) (row i)).2.2.1), aB E a4 64 ((abF ((addF u row i)) (row i)).2.2.2.1), aB E rr n row]) rfl (by decide) ?_
      refine j_pick [1, 2, 3, 0] (lv' := [(0, .ref h), (1, .ref rr), (2, .int (nI m)), (3, .int (nI (i + 1)))]) rfl ?_
      exact ih (i + 1) (by omega)
  exact loop (m) 0 (by omega)

def rm_H_addMasked : Room := { frames := 4, cells := 0, slots := 0, locals := 91 }
set_option maxHeartbeats 1000000 in
set_option maxRecDepth 100000 in
theorem c_H_addMasked (l : Launch) (E : Ev) (h a1 a2 a3 a4 : Nat) (u : HS) (rr : Nat) (fk : Nat → Int32) (mk : Int32) (hk : u.2.2.2.2.1 < 64) : MC E l yH_addMasked (cT yH_addMasked cH_addMasked 4 none) rm_H_addMasked [.ref h, .ref rr, .int mk] [ob h 2 [.ref a1, .ref a2, .ref a3, .ref a4, .int (nI u.2.2.2.2.1), .int (nI u.2.2.2.2.2)], aI E a1 8 u.1, aI E a2 64 u.2.1, aI E a3 8 u.2.2.1, aB E a4 64 u.2.2.2.1, aB E rr 32 fk] Unit (fun _ => True) (fun _ => none) (fun _ => [ob h 2 [.ref a1, .ref a2, .ref a3, .ref a4, .int (nI ((addF u (mskF fk mk) 64).2.2.2.2.1)), .int (nI ((addF u (mskF fk mk) 64).2.2.2.2.2))], aI E a1 8 ((addF u (mskF fk mk) 64).1), aI E a2 64 ((addF u (mskF fk mk) 64).2.1), aI E a3 8 ((addF u (mskF fk mk) 64).2.2.1), aB E a4 64 ((addF u (mskF fk mk) 64).2.2.2.1), aB E rr 32 fk]) := by
  refine MC.of (cc := cH_addMasked) (nL := 4) (ret := none) (by decide) rfl cT_in (Nat.le_of_ble_eq_true rfl) (fun g hg hR => ?_)
  show J E 4 g [ob h 2 [.ref a1, .ref a2, .ref a3, .ref a4, .int (nI u.2.2.2.2.1), .int (nI u.2.2.2.2.2)], aI E a1 8 u.1, aI E a2 64 u.2.1, aI E a3 8 u.2.2.1, aB E a4 64 u.2.2.2.1, aB E rr 32 fk] [(0, .ref h), (1, .ref rr), (2, .int mk)] 0 0 0 []
  refine j_iconst hg (v := 0) dH_addMasked_0 (by decide) ?_
  refine j_istore_n hg (lv' := [(3, .int 0), (0, .ref h), (1, .ref rr), (2, .int mk)]) dH_addMasked_1 rfl (by decide) rfl ?_
  refine j_pick [1, 2, 3, 0] (lv' := [(0, .ref h), (1, .ref rr), (2, .int mk), (3, .int 0)]) rfl ?_
  have loop : ∀ (zk i : Nat), i + zk = 64 → J E 4 g [ob h 2 [.ref a1, .ref a2, .ref a3, .ref a4, .int (nI ((addF u (mskF fk mk) i).2.2.2.2.1)), .int (nI ((addF u (mskF fk mk) i).2.2.2.2.2))], aI E a1 8 ((addF u (mskF fk mk) i).1), aI E a2 64 ((addF u (mskF fk mk) i).2.1), aI E a3 8 ((addF u (mskF fk mk) i).2.2.1), aB E a4 64 ((addF u (mskF fk mk) i).2.2.2.1), aB E rr 32 fk] [(0, .ref h), (1, .ref rr), (2, .int mk), (3, .int (nI i))] 0 0 2 [] := by
    intro zk
    induction zk with
    | zero =>
      intro i  hi
      obtain rfl : 64 = i := by omega
      refine j_iload_n hg 3 dH_addMasked_2 rfl rfl ?_
      refine j_bipush hg (v := 64) dH_addMasked_3 (by decide) ?_
      refine j_nge_t hg (tgt := 34) 64 64 rfl rfl (by omega) (by omega) (by omega) dH_addMasked_5 (by decide) ?_
      exact j_vret hg hR () trivial rfl [0, 1, 2, 3, 4, 5] rfl (by decide) (by decide) (by decide) dH_addMasked_34
    | succ zk ih =>
      intro i  hi
      refine j_iload_n hg 3 dH_addMasked_2 rfl rfl ?_
      refine j_bipush hg (v := 64) dH_addMasked_3 (by decide) ?_
      refine j_nge_f hg (tgt := 34) i 64 rfl rfl (by omega) (by omega) (by omega) dH_addMasked_5 (by decide) ?_
      refine j_aload_n hg 0 dH_addMasked_8 rfl rfl ?_
      refine j_iload_n hg 3 dH_addMasked_9 rfl rfl ?_
      refine j_aload_n hg 1 dH_addMasked_10 rfl rfl ?_
      refine j_alenB hg (v := 32) 5 rfl rfl dH_addMasked_11 ?_
      refine j_nge hg (tgt := 23) i 32 rfl rfl (by omega) (by omega) dH_addMasked_12 (by decide) (fun hc => ?_) (fun hc => ?_)
      · skip
        refine j_iload_n hg 2 dH_addMasked_23 rfl rfl ?_
        refine j_i2b hg (v := sB mk) dH_addMasked_24 rfl ?_
        refine j_topi (show sB mk = mskF fk mk i from by unfold mskF; rw [if_neg (by omega)]) ?_
        refine j_callV hg (n := 1) (y := yH_addByte) (rm := rm_H_addByte) (Ws := (cT yH_addByte cH_addByte 2 none)) (As := [.int (mskF fk mk i)]) (rest := []) (wr := [aB E rr 32 fk]) 0 rfl rfl (c_H_addByte l E h a1 a2 a3 a4 ((addF u (mskF fk mk) i)) (mskF fk mk i) (sB_nar _) (addF_lt hk i)) (gdV m281 m283 ms14 m4 m284) rfl (by decide +kernel) ⟨by decide, by decide⟩ rfl rfl (Nat.le_of_ble_eq_true rfl) ⟨by decide, by decide⟩ [0, 1, 2, 3, 4] [5] rfl rfl (by decide) (by decide) (by decide) dH_addMasked_25 (fun _ _ => ?_)
        show J E 4 g [aB E rr 32 fk, ob h 2 [.ref a1, .ref a2, .ref a3, .ref a4, .int (nI ((abF ((addF u (mskF fk mk) i)) (mskF fk mk i)).2.2.2.2.1)), .int (nI ((abF ((addF u (mskF fk mk) i)) (mskF fk mk i)).2.2.2.2.2))], aI E a1 8 ((abF ((addF u (mskF fk mk) i)) (mskF fk mk i)).1), aI E a2 64 ((abF ((addF u (mskF fk mk) i)) (mskF fk mk i)).2.1), aI E a3 8 ((abF ((addF u (mskF fk mk) i)) (mskF fk mk i)).2.2.1), aB E a4 64 ((abF ((addF u (mskF fk mk) i)) (mskF fk mk i)).2.2.2.1)] [(0, .ref h), (1, .ref rr), (2, .int mk), (3, .int (nI i))] 0 0 28 []
        refine j_iinc hg (kq := 3) (v := nI (i + 1)) (lv' := [(3, .int (nI (i + 1))), (0, .ref h), (1, .ref rr), (2, .int mk)]) dH_addMasked_28 rfl (nI_add i 1) (by decide) rfl ?_
        refine j_goto hg (tgt := 2) dH_addMasked_31 (by decide) ?_
        refine j_sub [1, 2, 3, 4, 5, 0] (ws' := [ob h 2 [.ref a1, .ref a2, .ref a3, .ref a4, .int (nI ((abF ((addF u (mskF fk mk) i)) (mskF fk mk i)).2.2.2.2.1)), .int (nI ((abF ((addF u (mskF fk mk) i)) (mskF fk mk i)).2.2.2.2.2))], aI E a1 8 ((abF ((addF u (mskF fk mk) i)) (mskF fk mk i)).1), aI E a2 64 ((abF ((addF u (mskF fk mk) i)) (mskF fk mk i)).2.1), aI E a3 8 ((abF ((addF u (mskF fk mk) i)) (mskF fk mk i)).2.2.1), aB E a4 64 ((abF ((addF u (mskF fk mk) i)) (mskF fk mk i)).2.2.2.1), aB E rr 32 fk]) rfl (by decide) ?_
        refine j_pick [1, 2, 3, 0] (lv' := [(0, .ref h), (1, .ref rr), (2, .int mk), (3, .int (nI (i + 1)))]) rfl ?_
        exact ih (i + 1) (by omega)
      · skip
        refine j_aload_n hg 1 dH_addMasked_15 rfl rfl ?_
        refine j_iload_n hg 3 dH_addMasked_16 rfl rfl ?_
        refine j_bald hg (v := fk i) 5 i rfl rfl (by omega) (by omega) rfl dH_addMasked_17 ?_
        refine j_iload_n hg 2 dH_addMasked_18 rfl rfl ?_
        refine j_ixor hg (v := (fk i) ^^^ mk) dH_addMasked_19 rfl ?_
        refine j_goto hg (tgt := 24) dH_addMasked_20 (by decide) ?_
        refine j_i2b hg (v := sB ((fk i) ^^^ mk)) dH_addMasked_24 rfl ?_
        refine j_topi (show sB (fk i ^^^ mk) = mskF fk mk i from by unfold mskF; rw [if_pos (by omega)]) ?_
        refine j_callV hg (n := 1) (y := yH_addByte) (rm := rm_H_addByte) (Ws := (cT yH_addByte cH_addByte 2 none)) (As := [.int (mskF fk mk i)]) (rest := []) (wr := [aB E rr 32 fk]) 0 rfl rfl (c_H_addByte l E h a1 a2 a3 a4 ((addF u (mskF fk mk) i)) (mskF fk mk i) (sB_nar _) (addF_lt hk i)) (gdV m281 m283 ms14 m4 m284) rfl (by decide +kernel) ⟨by decide, by decide⟩ rfl rfl (Nat.le_of_ble_eq_true rfl) ⟨by decide, by decide⟩ [0, 1, 2, 3, 4] [5] rfl rfl (by decide) (by decide) (by decide) dH_addMasked_25 (fun _ _ => ?_)
        show J E 4 g [aB E rr 32 fk, ob h 2 [.ref a1, .ref a2, .ref a3, .ref a4, .int (nI ((abF ((addF u (mskF fk mk) i)) (mskF fk mk i)).2.2.2.2.1)), .int (nI ((abF ((addF u (mskF fk mk) i)) (mskF fk mk i)).2.2.2.2.2))], aI E a1 8 ((abF ((addF u (mskF fk mk) i)) (mskF fk mk i)).1), aI E a2 64 ((abF ((addF u (mskF fk mk) i)) (mskF fk mk i)).2.1), aI E a3 8 ((abF ((addF u (mskF fk mk) i)) (mskF fk mk i)).2.2.1), aB E a4 64 ((abF ((addF u (mskF fk mk) i)) (mskF fk mk i)).2.2.2.1)] [(0, .ref h), (1, .ref rr), (2, .int mk), (3, .int (nI i))] 0 0 28 []
        refine j_iinc hg (kq := 3) (v := nI (i + 1)) (lv' := [(3, .int (nI (i + 1))), (0, .ref h), (1, .ref rr), (2, .int mk)]) dH_addMasked_28 rfl (nI_add i 1) (by decide) rfl ?_
        refine j_goto hg (tgt := 2) dH_addMasked_31 (by decide) ?_
        refine j_sub [1, 2, 3, 4, 5, 0] (ws' := [ob h 2 [.ref a1, .ref a2, .ref a3, .ref a4, .int (nI ((abF ((addF u (mskF fk mk) i)) (mskF fk mk i)).2.2.2.2.1)), .int (nI ((abF ((addF u (mskF fk mk) i)) (mskF fk mk i)).2.2.2.2.2))], aI E a1 8 ((abF ((addF u (mskF fk mk) i)) (mskF fk mk i)).1), aI E a2 64 ((abF ((addF u (mskF fk mk) i)) (mskF fk mk i)).2.1), aI E a3 8 ((abF ((addF u (mskF fk mk) i)) (mskF fk mk i)).2.2.1), aB E a4 64 ((abF ((addF u (mskF fk mk) i)) (mskF fk mk i)).2.2.2.1), aB E rr 32 fk]) rfl (by decide) ?_
        refine j_pick [1, 2, 3, 0] (lv' := [(0, .ref h), (1, .ref rr), (2, .int mk), (3, .int (nI (i + 1)))]) rfl ?_
        exact ih (i + 1) (by omega)
  exact loop (64) 0 (by omega)

def rm_H_finish : Room := { frames := 4, cells := 0, slots := 0, locals := 91 }
set_option maxHeartbeats 1000000 in
set_option maxRecDepth 100000 in
theorem c_H_finish (l : Launch) (E : Ev) (h a1 a2 a3 a4 : Nat) (u : HS) (rr n : Nat) (row : Nat → Int32) (hk : u.2.2.2.2.1 < 64) (h1 : 32 ≤ n) (h2 : n < 2147483648) : MC E l yH_finish (cT yH_finish cH_finish 5 none) rm_H_finish [.ref h, .ref rr] [ob h 2 [.ref a1, .ref a2, .ref a3, .ref a4, .int (nI u.2.2.2.2.1), .int (nI u.2.2.2.2.2)], aI E a1 8 u.1, aI E a2 64 u.2.1, aI E a3 8 u.2.2.1, aB E a4 64 u.2.2.2.1, aB E rr n row] Unit (fun _ => True) (fun _ => none) (fun _ => [ob h 2 [.ref a1, .ref a2, .ref a3, .ref a4, .int (nI ((finF u).2.2.2.2.1)), .int (nI ((finF u).2.2.2.2.2))], aI E a1 8 ((finF u).1), aI E a2 64 ((finF u).2.1), aI E a3 8 ((finF u).2.2.1), aB E a4 64 ((finF u).2.2.2.1), aB E rr n (outH row (finF u).1 8)]) := by
  refine MC.of (cc := cH_finish) (nL := 5) (ret := none) (by decide) rfl cT_in (Nat.le_of_ble_eq_true rfl) (fun g hg hR => ?_)
  show J E 5 g [ob h 2 [.ref a1, .ref a2, .ref a3, .ref a4, .int (nI u.2.2.2.2.1), .int (nI u.2.2.2.2.2)], aI E a1 8 u.1, aI E a2 64 u.2.1, aI E a3 8 u.2.2.1, aB E a4 64 u.2.2.2.1, aB E rr n row] [(0, .ref h), (1, .ref rr)] 0 0 0 []
  refine j_aload_n hg 0 dH_finish_0 rfl rfl ?_
  refine j_get hg (C := RX2) (T := TX2) (N := 6) inX2 0 rfl rfl 5 (by decide) m69 rfl dH_finish_1 ?_
  refine j_bipush hg (v := 8) dH_finish_4 (by decide) ?_
  refine j_imul hg (v := nI (u.2.2.2.2.2 * 8)) dH_finish_6 (pk_mul u.2.2.2.2.2 8) ?_
  refine j_istore_n hg (lv' := [(2, .int (nI (u.2.2.2.2.2 * 8))), (0, .ref h), (1, .ref rr)]) dH_finish_7 rfl (by decide) rfl ?_
  refine j_aload_n hg 1 dH_finish_8 rfl rfl ?_
  refine j_bipush hg (v := -128) dH_finish_9 (by decide) ?_
  refine j_callV hg (n := 1) (y := yH_addByte) (rm := rm_H_addByte) (Ws := (cT yH_addByte cH_addByte 2 none)) (As := [.int (-128)]) (rest := []) (wr := [aB E rr n row]) 0 rfl rfl (c_H_addByte l E h a1 a2 a3 a4 u (-128) (by decide) hk) (gdV m281 m283 ms14 m4 m284) rfl (by decide +kernel) ⟨by decide, by decide⟩ rfl rfl (Nat.le_of_ble_eq_true rfl) ⟨by decide, by decide⟩ [0, 1, 2, 3, 4] [5] rfl rfl (by decide) (by decide) (by decide) dH_finish_11 (fun _ _ => ?_)
  show J E 5 g [aB E rr n row, ob h 2 [.ref a1, .ref a2, .ref a3, .ref a4, .int (nI ((abF u (-128)).2.2.2.2.1)), .int (nI ((abF u (-128)).2.2.2.2.2))], aI E a1 8 ((abF u (-128)).1), aI E a2 64 ((abF u (-128)).2.1), aI E a3 8 ((abF u (-128)).2.2.1), aB E a4 64 ((abF u (-128)).2.2.2.1)] [(2, .int (nI (u.2.2.2.2.2 * 8))), (0, .ref h), (1, .ref rr)] 0 0 14 []
  refine j_bipush hg (v := 56) dH_finish_14 (by decide) ?_
  refine j_aload_n hg 1 dH_finish_16 rfl rfl ?_
  refine j_get hg (C := RX2) (T := TX2) (N := 6) inX2 1 rfl rfl 4 (by decide) m68 rfl dH_finish_17 ?_
  refine j_isub hg (v := 56 - (nI ((abF u (-128)).2.2.2.2.1))) dH_finish_20 rfl ?_
  refine j_bipush hg (v := 63) dH_finish_21 (by decide) ?_
  refine j_iand hg (v := (56 - (nI ((abF u (-128)).2.2.2.2.1))) &&& 63) dH_finish_23 rfl ?_
  refine j_topi (m56 _ (abF_lt hk)) ?_
  refine j_istore_n hg (lv' := [(3, .int (nI ((120 - (abF u (-128)).2.2.2.2.1) % 64))), (2, .int (nI (u.2.2.2.2.2 * 8))), (0, .ref h), (1, .ref rr)]) dH_finish_24 rfl (by decide) rfl ?_
  refine j_iconst hg (v := 0) dH_finish_25 (by decide) ?_
  refine j_istore hg (lv' := [(4, .int 0), (3, .int (nI ((120 - (abF u (-128)).2.2.2.2.1) % 64))), (2, .int (nI (u.2.2.2.2.2 * 8))), (0, .ref h), (1, .ref rr)]) dH_finish_26 (by decide) rfl ?_
  refine j_sub [1, 2, 3, 4, 5, 0] (ws' := [ob h 2 [.ref a1, .ref a2, .ref a3, .ref a4, .int (nI ((abF u (-128)).2.2.2.2.1)), .int (nI ((abF u (-128)).2.2.2.2.2))], aI E a1 8 ((abF u (-128)).1), aI E a2 64 ((abF u (-128)).2.1), aI E a3 8 ((abF u (-128)).2.2.1), aB E a4 64 ((abF u (-128)).2.2.2.1), aB E rr n row]) rfl (by decide) ?_
  refine j_pick [3, 4, 2, 1, 0] (lv' := [(0, .ref h), (1, .ref rr), (2, .int (nI (u.2.2.2.2.2 * 8))), (3, .int (nI ((120 - (abF u (-128)).2.2.2.2.1) % 64))), (4, .int 0)]) rfl ?_
  have loop : ∀ (zk i : Nat), i + zk = (120 - (abF u (-128)).2.2.2.2.1) % 64 + 4 → J E 5 g [ob h 2 [.ref a1, .ref a2, .ref a3, .ref a4, .int (nI ((zerF (abF u (-128)) i).2.2.2.2.1)), .int (nI ((zerF (abF u (-128)) i).2.2.2.2.2))], aI E a1 8 ((zerF (abF u (-128)) i).1), aI E a2 64 ((zerF (abF u (-128)) i).2.1), aI E a3 8 ((zerF (abF u (-128)) i).2.2.1), aB E a4 64 ((zerF (abF u (-128)) i).2.2.2.1), aB E rr n row] [(0, .ref h), (1, .ref rr), (2, .int (nI (u.2.2.2.2.2 * 8))), (3, .int (nI ((120 - (abF u (-128)).2.2.2.2.1) % 64))), (4, .int (nI i))] 0 0 28 [] := by
    intro zk
    induction zk with
    | zero =>
      intro i  hi
      obtain rfl : (120 - (abF u (-128)).2.2.2.2.1) % 64 + 4 = i := by omega
      refine j_iload hg 4 dH_finish_28 rfl ?_
      refine j_iload_n hg 3 dH_finish_30 rfl rfl ?_
      refine j_iconst hg (v := 4) dH_finish_31 (by decide) ?_
      refine j_iadd hg (v := nI ((120 - (abF u (-128)).2.2.2.2.1) % 64 + 4)) dH_finish_32 (nI_add ((120 - (abF u (-128)).2.2.2.2.1) % 64) 4) ?_
      refine j_nge_t hg (tgt := 47) ((120 - (abF u (-128)).2.2.2.2.1) % 64 + 4) ((120 - (abF u (-128)).2.2.2.2.1) % 64 + 4) rfl rfl (by omega) (by omega) (by omega) dH_finish_33 (by decide) ?_
      show J E 5 g [ob h 2 [.ref a1, .ref a2, .ref a3, .ref a4, .int (nI ((padF u).2.2.2.2.1)), .int (nI ((padF u).2.2.2.2.2))], aI E a1 8 ((padF u).1), aI E a2 64 ((padF u).2.1), aI E a3 8 ((padF u).2.2.1), aB E a4 64 ((padF u).2.2.2.1), aB E rr n row] [(0, .ref h), (1, .ref rr), (2, .int (nI (u.2.2.2.2.2 * 8))), (3, .int (nI ((120 - (abF u (-128)).2.2.2.2.1) % 64))), (4, .int (nI ((120 - (abF u (-128)).2.2.2.2.1) % 64 + 4)))] 0 0 47 []
      refine j_bipush hg (v := 24) dH_finish_47 (by decide) ?_
      refine j_istore hg (lv' := [(4, .int 24), (0, .ref h), (1, .ref rr), (2, .int (nI (u.2.2.2.2.2 * 8))), (3, .int (nI ((120 - (abF u (-128)).2.2.2.2.1) % 64)))]) dH_finish_49 (by decide) rfl ?_
      refine j_iload hg 0 dH_finish_51 rfl ?_
      refine j_zlt_f hg (tgt := 71) 24 rfl (by omega) (by omega) dH_finish_53 (by decide) ?_
      refine j_aload_n hg 1 dH_finish_56 rfl rfl ?_
      refine j_iload_n hg 3 dH_finish_57 rfl rfl ?_
      refine j_iload hg 0 dH_finish_58 rfl ?_
      refine j_iushr hg (v := ushr (nI (u.2.2.2.2.2 * 8)) 24) dH_finish_60 rfl ?_
      refine j_i2b hg (v := sB (ushr (nI (u.2.2.2.2.2 * 8)) 24)) dH_finish_61 rfl ?_
      refine j_callV hg (n := 1) (y := yH_addByte) (rm := rm_H_addByte) (Ws := (cT yH_addByte cH_addByte 2 none)) (As := [.int (sB (ushr (nI (u.2.2.2.2.2 * 8)) 24))]) (rest := []) (wr := [aB E rr n row]) 0 rfl rfl (c_H_addByte l E h a1 a2 a3 a4 ((padF u)) (sB (ushr (nI (u.2.2.2.2.2 * 8)) 24)) (sB_nar _) (padF_lt hk)) (gdV m281 m283 ms14 m4 m284) rfl (by decide +kernel) ⟨by decide, by decide⟩ rfl rfl (Nat.le_of_ble_eq_true rfl) ⟨by decide, by decide⟩ [0, 1, 2, 3, 4] [5] rfl rfl (by decide) (by decide) (by decide) dH_finish_62 (fun _ _ => ?_)
      show J E 5 g [aB E rr n row, ob h 2 [.ref a1, .ref a2, .ref a3, .ref a4, .int (nI ((abF ((padF u)) (sB (ushr (nI (u.2.2.2.2.2 * 8)) 24))).2.2.2.2.1)), .int (nI ((abF ((padF u)) (sB (ushr (nI (u.2.2.2.2.2 * 8)) 24))).2.2.2.2.2))], aI E a1 8 ((abF ((padF u)) (sB (ushr (nI (u.2.2.2.2.2 * 8)) 24))).1), aI E a2 64 ((abF ((padF u)) (sB (ushr (nI (u.2.2.2.2.2 * 8)) 24))).2.1), aI E a3 8 ((abF ((padF u)) (sB (ushr (nI (u.2.2.2.2.2 * 8)) 24))).2.2.1), aB E a4 64 ((abF ((padF u)) (sB (ushr (nI (u.2.2.2.2.2 * 8)) 24))).2.2.2.1)] [(4, .int 24), (0, .ref h), (1, .ref rr), (2, .int (nI (u.2.2.2.2.2 * 8))), (3, .int (nI ((120 - (abF u (-128)).2.2.2.2.1) % 64)))] 0 0 65 []
      refine j_iinc hg (kq := 0) (v := 16) (lv' := [(4, .int 16), (0, .ref h), (1, .ref rr), (2, .int (nI (u.2.2.2.2.2 * 8))), (3, .int (nI ((120 - (abF u (-128)).2.2.2.2.1) % 64)))]) dH_finish_65 rfl (by decide) (by decide) rfl ?_
      refine j_goto hg (tgt := 51) dH_finish_68 (by decide) ?_
      refine j_iload hg 0 dH_finish_51 rfl ?_
      refine j_zlt_f hg (tgt := 71) 16 rfl (by omega) (by omega) dH_finish_53 (by decide) ?_
      refine j_aload_n hg 1 dH_finish_56 rfl rfl ?_
      refine j_iload_n hg 3 dH_finish_57 rfl rfl ?_
      refine j_iload hg 0 dH_finish_58 rfl ?_
      refine j_iushr hg (v := ushr (nI (u.2.2.2.2.2 * 8)) 16) dH_finish_60 rfl ?_
      refine j_i2b hg (v := sB (ushr (nI (u.2.2.2.2.2 * 8)) 16)) dH_finish_61 rfl ?_
      refine j_callV hg (n := 1) (y := yH_addByte) (rm := rm_H_addByte) (Ws := (cT yH_addByte cH_addByte 2 none)) (As := [.int (sB (ushr (nI (u.2.2.2.2.2 * 8)) 16))]) (rest := []) (wr := [aB E rr n row]) 0 rfl rfl (c_H_addByte l E h a1 a2 a3 a4 ((abF ((padF u)) (sB (ushr (nI (u.2.2.2.2.2 * 8)) 24)))) (sB (ushr (nI (u.2.2.2.2.2 * 8)) 16)) (sB_nar _) (abF_lt (padF_lt hk))) (gdV m281 m283 ms14 m4 m284) rfl (by decide +kernel) ⟨by decide, by decide⟩ rfl rfl (Nat.le_of_ble_eq_true rfl) ⟨by decide, by decide⟩ [1, 2, 3, 4, 5] [0] rfl rfl (by decide) (by decide) (by decide) dH_finish_62 (fun _ _ => ?_)
      show J E 5 g [aB E rr n row, ob h 2 [.ref a1, .ref a2, .ref a3, .ref a4, .int (nI ((abF ((abF ((padF u)) (sB (ushr (nI (u.2.2.2.2.2 * 8)) 24)))) (sB (ushr (nI (u.2.2.2.2.2 * 8)) 16))).2.2.2.2.1)), .int (nI ((abF ((abF ((padF u)) (sB (ushr (nI (u.2.2.2.2.2 * 8)) 24)))) (sB (ushr (nI (u.2.2.2.2.2 * 8)) 16))).2.2.2.2.2))], aI E a1 8 ((abF ((abF ((padF u)) (sB (ushr (nI (u.2.2.2.2.2 * 8)) 24)))) (sB (ushr (nI (u.2.2.2.2.2 * 8)) 16))).1), aI E a2 64 ((abF ((abF ((padF u)) (sB (ushr (nI (u.2.2.2.2.2 * 8)) 24)))) (sB (ushr (nI (u.2.2.2.2.2 * 8)) 16))).2.1), aI E a3 8 ((abF ((abF ((padF u)) (sB (ushr (nI (u.2.2.2.2.2 * 8)) 24)))) (sB (ushr (nI (u.2.2.2.2.2 * 8)) 16))).2.2.1), aB E a4 64 ((abF ((abF ((padF u)) (sB (ushr (nI (u.2.2.2.2.2 * 8)) 24)))) (sB (ushr (nI (u.2.2.2.2.2 * 8)) 16))).2.2.2.1)] [(4, .int 16), (0, .ref h), (1, .ref rr), (2, .int (nI (u.2.2.2.2.2 * 8))), (3, .int (nI ((120 - (abF u (-128)).2.2.2.2.1) % 64)))] 0 0 65 []
      refine j_iinc hg (kq := 0) (v := 8) (lv' := [(4, .int 8), (0, .ref h), (1, .ref rr), (2, .int (nI (u.2.2.2.2.2 * 8))), (3, .int (nI ((120 - (abF u (-128)).2.2.2.2.1) % 64)))]) dH_finish_65 rfl (by decide) (by decide) rfl ?_
      refine j_goto hg (tgt := 51) dH_finish_68 (by decide) ?_
      refine j_iload hg 0 dH_finish_51 rfl ?_
      refine j_zlt_f hg (tgt := 71) 8 rfl (by omega) (by omega) dH_finish_53 (by decide) ?_
      refine j_aload_n hg 1 dH_finish_56 rfl rfl ?_
      refine j_iload_n hg 3 dH_finish_57 rfl rfl ?_
      refine j_iload hg 0 dH_finish_58 rfl ?_
      refine j_iushr hg (v := ushr (nI (u.2.2.2.2.2 * 8)) 8) dH_finish_60 rfl ?_
      refine j_i2b hg (v := sB (ushr (nI (u.2.2.2.2.2 * 8)) 8)) dH_finish_61 rfl ?_
      refine j_callV hg (n := 1) (y := yH_addByte) (rm := rm_H_addByte) (Ws := (cT yH_addByte cH_addByte 2 none)) (As := [.int (sB (ushr (nI (u.2.2.2.2.2 * 8)) 8))]) (rest := []) (wr := [aB E rr n row]) 0 rfl rfl (c_H_addByte l E h a1 a2 a3 a4 ((abF ((abF ((padF u)) (sB (ushr (nI (u.2.2.2.2.2 * 8)) 24)))) (sB (ushr (nI (u.2.2.2.2.2 * 8)) 16)))) (sB (ushr (nI (u.2.2.2.2.2 * 8)) 8)) (sB_nar _) (abF_lt (abF_lt (padF_lt hk)))) (gdV m281 m283 ms14 m4 m284) rfl (by decide +kernel) ⟨by decide, by decide⟩ rfl rfl (Nat.le_of_ble_eq_true rfl) ⟨by decide, by decide⟩ [1, 2, 3, 4, 5] [0] rfl rfl (by decide) (by decide) (by decide) dH_finish_62 (fun _ _ => ?_)
      show J E 5 g [aB E rr n row, ob h 2 [.ref a1, .ref a2, .ref a3, .ref a4, .int (nI ((abF ((abF ((abF ((padF u)) (sB (ushr (nI (u.2.2.2.2.2 * 8)) 24)))) (sB (ushr (nI (u.2.2.2.2.2 * 8)) 16)))) (sB (ushr (nI (u.2.2.2.2.2 * 8)) 8))).2.2.2.2.1)), .int (nI ((abF ((abF ((abF ((padF u)) (sB (ushr (nI (u.2.2.2.2.2 * 8)) 24)))) (sB (ushr (nI (u.2.2.2.2.2 * 8)) 16)))) (sB (ushr (nI (u.2.2.2.2.2 * 8)) 8))).2.2.2.2.2))], aI E a1 8 ((abF ((abF ((abF ((padF u)) (sB (ushr (nI (u.2.2.2.2.2 * 8)) 24)))) (sB (ushr (nI (u.2.2.2.2.2 * 8)) 16)))) (sB (ushr (nI (u.2.2.2.2.2 * 8)) 8))).1), aI E a2 64 ((abF ((abF ((abF ((padF u)) (sB (ushr (nI (u.2.2.2.2.2 * 8)) 24)))) (sB (ushr (nI (u.2.2.2.2.2 * 8)) 16)))) (sB (ushr (nI (u.2.2.2.2.2 * 8)) 8))).2.1), aI E a3 8 ((abF ((abF ((abF ((padF u)) (sB (ushr (nI (u.2.2.2.2.2 * 8)) 24)))) (sB (ushr (nI (u.2.2.2.2.2 * 8)) 16)))) (sB (ushr (nI (u.2.2.2.2.2 * 8)) 8))).2.2.1), aB E a4 64 ((abF ((abF ((abF ((padF u)) (sB (ushr (nI (u.2.2.2.2.2 * 8)) 24)))) (sB (ushr (nI (u.2.2.2.2.2 * 8)) 16)))) (sB (ushr (nI (u.2.2.2.2.2 * 8)) 8))).2.2.2.1)] [(4, .int 8), (0, .ref h), (1, .ref rr), (2, .int (nI (u.2.2.2.2.2 * 8))), (3, .int (nI ((120 - (abF u (-128)).2.2.2.2.1) % 64)))] 0 0 65 []
      refine j_iinc hg (kq := 0) (v := 0) (lv' := [(4, .int 0), (0, .ref h), (1, .ref rr), (2, .int (nI (u.2.2.2.2.2 * 8))), (3, .int (nI ((120 - (abF u (-128)).2.2.2.2.1) % 64)))]) dH_finish_65 rfl (by decide) (by decide) rfl ?_
      refine j_goto hg (tgt := 51) dH_finish_68 (by decide) ?_
      refine j_iload hg 0 dH_finish_51 rfl ?_
      refine j_zlt_f hg (tgt := 71) 0 rfl (by omega) (by omega) dH_finish_53 (by decide) ?_
      refine j_aload_n hg 1 dH_finish_56 rfl rfl ?_
      refine j_iload_n hg 3 dH_finish_57 rfl rfl ?_
      refine j_iload hg 0 dH_finish_58 rfl ?_
      refine j_iushr hg (v := ushr (nI (u.2.2.2.2.2 * 8)) 0) dH_finish_60 rfl ?_
      refine j_i2b hg (v := sB (ushr (nI (u.2.2.2.2.2 * 8)) 0)) dH_finish_61 rfl ?_
      refine j_callV hg (n := 1) (y := yH_addByte) (rm := rm_H_addByte) (Ws := (cT yH_addByte cH_addByte 2 none)) (As := [.int (sB (ushr (nI (u.2.2.2.2.2 * 8)) 0))]) (rest := []) (wr := [aB E rr n row]) 0 rfl rfl (c_H_addByte l E h a1 a2 a3 a4 ((abF ((abF ((abF ((padF u)) (sB (ushr (nI (u.2.2.2.2.2 * 8)) 24)))) (sB (ushr (nI (u.2.2.2.2.2 * 8)) 16)))) (sB (ushr (nI (u.2.2.2.2.2 * 8)) 8)))) (sB (ushr (nI (u.2.2.2.2.2 * 8)) 0)) (sB_nar _) (abF_lt (abF_lt (abF_lt (padF_lt hk))))) (gdV m281 m283 ms14 m4 m284) rfl (by decide +kernel) ⟨by decide, by decide⟩ rfl rfl (Nat.le_of_ble_eq_true rfl) ⟨by decide, by decide⟩ [1, 2, 3, 4, 5] [0] rfl rfl (by decide) (by decide) (by decide) dH_finish_62 (fun _ _ => ?_)
      show J E 5 g [aB E rr n row, ob h 2 [.ref a1, .ref a2, .ref a3, .ref a4, .int (nI ((abF ((abF ((abF ((abF ((padF u)) (sB (ushr (nI (u.2.2.2.2.2 * 8)) 24)))) (sB (ushr (nI (u.2.2.2.2.2 * 8)) 16)))) (sB (ushr (nI (u.2.2.2.2.2 * 8)) 8)))) (sB (ushr (nI (u.2.2.2.2.2 * 8)) 0))).2.2.2.2.1)), .int (nI ((abF ((abF ((abF ((abF ((padF u)) (sB (ushr (nI (u.2.2.2.2.2 * 8)) 24)))) (sB (ushr (nI (u.2.2.2.2.2 * 8)) 16)))) (sB (ushr (nI (u.2.2.2.2.2 * 8)) 8)))) (sB (ushr (nI (u.2.2.2.2.2 * 8)) 0))).2.2.2.2.2))], aI E a1 8 ((abF ((abF ((abF ((abF ((padF u)) (sB (ushr (nI (u.2.2.2.2.2 * 8)) 24)))) (sB (ushr (nI (u.2.2.2.2.2 * 8)) 16)))) (sB (ushr (nI (u.2.2.2.2.2 * 8)) 8)))) (sB (ushr (nI (u.2.2.2.2.2 * 8)) 0))).1), aI E a2 64 ((abF ((abF ((abF ((abF ((padF u)) (sB (ushr (nI (u.2.2.2.2.2 * 8)) 24)))) (sB (ushr (nI (u.2.2.2.2.2 * 8)) 16)))) (sB (ushr (nI (u.2.2.2.2.2 * 8)) 8)))) (sB (ushr (nI (u.2.2.2.2.2 * 8)) 0))).2.1), aI E a3 8 ((abF ((abF ((abF ((abF ((padF u)) (sB (ushr (nI (u.2.2.2.2.2 * 8)) 24)))) (sB (ushr (nI (u.2.2.2.2.2 * 8)) 16)))) (sB (ushr (nI (u.2.2.2.2.2 * 8)) 8)))) (sB (ushr (nI (u.2.2.2.2.2 * 8)) 0))).2.2.1), aB E a4 64 ((abF ((abF ((abF ((abF ((padF u)) (sB (ushr (nI (u.2.2.2.2.2 * 8)) 24)))) (sB (ushr (nI (u.2.2.2.2.2 * 8)) 16)))) (sB (ushr (nI (u.2.2.2.2.2 * 8)) 8)))) (sB (ushr (nI (u.2.2.2.2.2 * 8)) 0))).2.2.2.1)] [(4, .int 0), (0, .ref h), (1, .ref rr), (2, .int (nI (u.2.2.2.2.2 * 8))), (3, .int (nI ((120 - (abF u (-128)).2.2.2.2.1) % 64)))] 0 0 65 []
      refine j_iinc hg (kq := 0) (v := -8) (lv' := [(4, .int (-8)), (0, .ref h), (1, .ref rr), (2, .int (nI (u.2.2.2.2.2 * 8))), (3, .int (nI ((120 - (abF u (-128)).2.2.2.2.1) % 64)))]) dH_finish_65 rfl (by decide) (by decide) rfl ?_
      refine j_goto hg (tgt := 51) dH_finish_68 (by decide) ?_
      refine j_iload hg 0 dH_finish_51 rfl ?_
      refine j_if_lt hg (tgt := 71) dH_finish_53 (by decide) (fun _ => ?_) (fun h => absurd (by decide) h)
      refine j_sub [1, 2, 3, 4, 5, 0] (ws' := [ob h 2 [.ref a1, .ref a2, .ref a3, .ref a4, .int (nI ((abF ((abF ((abF ((abF ((padF u)) (sB (ushr (nI (u.2.2.2.2.2 * 8)) 24)))) (sB (ushr (nI (u.2.2.2.2.2 * 8)) 16)))) (sB (ushr (nI (u.2.2.2.2.2 * 8)) 8)))) (sB (ushr (nI (u.2.2.2.2.2 * 8)) 0))).2.2.2.2.1)), .int (nI ((abF ((abF ((abF ((abF ((padF u)) (sB (ushr (nI (u.2.2.2.2.2 * 8)) 24)))) (sB (ushr (nI (u.2.2.2.2.2 * 8)) 16)))) (sB (ushr (nI (u.2.2.2.2.2 * 8)) 8)))) (sB (ushr (nI (u.2.2.2.2.2 * 8)) 0))).2.2.2.2.2))], aI E a1 8 ((abF ((abF ((abF ((abF ((padF u)) (sB (ushr (nI (u.2.2.2.2.2 * 8)) 24)))) (sB (ushr (nI (u.2.2.2.2.2 * 8)) 16)))) (sB (ushr (nI (u.2.2.2.2.2 * 8)) 8)))) (sB (ushr (nI (u.2.2.2.2.2 * 8)) 0))).1), aI E a2 64 ((abF ((abF ((abF ((abF ((padF u)) (sB (ushr (nI (u.2.2.2.2.2 * 8)) 24)))) (sB (ushr (nI (u.2.2.2.2.2 * 8)) 16)))) (sB (ushr (nI (u.2.2.2.2.2 * 8)) 8)))) (sB (ushr (nI (u.2.2.2.2.2 * 8)) 0))).2.1), aI E a3 8 ((abF ((abF ((abF ((abF ((padF u)) (sB (ushr (nI (u.2.2.2.2.2 * 8)) 24)))) (sB (ushr (nI (u.2.2.2.2.2 * 8)) 16)))) (sB (ushr (nI (u.2.2.2.2.2 * 8)) 8)))) (sB (ushr (nI (u.2.2.2.2.2 * 8)) 0))).2.2.1), aB E a4 64 ((abF ((abF ((abF ((abF ((padF u)) (sB (ushr (nI (u.2.2.2.2.2 * 8)) 24)))) (sB (ushr (nI (u.2.2.2.2.2 * 8)) 16)))) (sB (ushr (nI (u.2.2.2.2.2 * 8)) 8)))) (sB (ushr (nI (u.2.2.2.2.2 * 8)) 0))).2.2.2.1), aB E rr n row]) rfl (by decide) ?_
      show J E 5 g [ob h 2 [.ref a1, .ref a2, .ref a3, .ref a4, .int (nI ((finF u).2.2.2.2.1)), .int (nI ((finF u).2.2.2.2.2))], aI E a1 8 ((finF u).1), aI E a2 64 ((finF u).2.1), aI E a3 8 ((finF u).2.2.1), aB E a4 64 ((finF u).2.2.2.1), aB E rr n row] [(4, .int (-8)), (0, .ref h), (1, .ref rr), (2, .int (nI (u.2.2.2.2.2 * 8))), (3, .int (nI ((120 - (abF u (-128)).2.2.2.2.1) % 64)))] 0 0 71 []
      refine j_iconst hg (v := 0) dH_finish_71 (by decide) ?_
      refine j_istore hg (lv' := [(4, .int 0), (0, .ref h), (1, .ref rr), (2, .int (nI (u.2.2.2.2.2 * 8))), (3, .int (nI ((120 - (abF u (-128)).2.2.2.2.1) % 64)))]) dH_finish_72 (by decide) rfl ?_
      refine j_pick [1, 2, 0] (lv' := [(0, .ref h), (1, .ref rr), (4, .int 0)]) rfl ?_
      have loop2 : ∀ (zk i : Nat), i + zk = 8 → J E 5 g [ob h 2 [.ref a1, .ref a2, .ref a3, .ref a4, .int (nI ((finF u).2.2.2.2.1)), .int (nI ((finF u).2.2.2.2.2))], aI E a1 8 ((finF u).1), aI E a2 64 ((finF u).2.1), aI E a3 8 ((finF u).2.2.1), aB E a4 64 ((finF u).2.2.2.1), aB E rr n (outH row (finF u).1 i)] [(0, .ref h), (1, .ref rr), (4, .int (nI i))] 0 0 74 [] := by
        intro zk
        induction zk with
        | zero =>
          intro i  hi
          obtain rfl : 8 = i := by omega
          refine j_iload hg 2 dH_finish_74 rfl ?_
          refine j_bipush hg (v := 8) dH_finish_76 (by decide) ?_
          refine j_nge_t hg (tgt := 102) 8 8 rfl rfl (by omega) (by omega) (by omega) dH_finish_78 (by decide) ?_
          exact j_vret hg hR () trivial rfl [0, 1, 2, 3, 4, 5] rfl (by decide) (by decide) (by decide) dH_finish_102
        | succ zk ih =>
          intro i  hi
          refine j_iload hg 2 dH_finish_74 rfl ?_
          refine j_bipush hg (v := 8) dH_finish_76 (by decide) ?_
          refine j_nge_f hg (tgt := 102) i 8 rfl rfl (by omega) (by omega) (by omega) dH_finish_78 (by decide) ?_
          refine j_aload_n hg 1 dH_finish_81 rfl rfl ?_
          refine j_iconst hg (v := 4) dH_finish_82 (by decide) ?_
          refine j_iload hg 2 dH_finish_83 rfl ?_
          refine j_imul hg (v := nI (4 * i)) dH_finish_85 (pk_mul 4 i) ?_
          refine j_aload_n hg 0 dH_finish_86 rfl rfl ?_
          refine j_get hg (C := RX2) (T := TX2) (N := 6) inX2 0 rfl rfl 0 (by decide) m64 rfl dH_finish_87 ?_
          refine j_iload hg 2 dH_finish_90 rfl ?_
          refine j_iald hg (v := ((finF u).1) i) 1 i rfl rfl (by omega) (by omega) rfl dH_finish_92 ?_
          refine j_callSN hg (n := 3) (y := yS_writeHighestFirst) (rm := rm_S_writeHighestFirst) (Ws := (cT yS_writeHighestFirst cS_writeHighestFirst 3 none)) (As := [.ref rr, .int (nI (4 * i)), .int (((finF u).1) i)]) (rest := []) (wr := [ob h 2 [.ref a1, .ref a2, .ref a3, .ref a4, .int (nI ((finF u).2.2.2.2.1)), .int (nI ((finF u).2.2.2.2.2))], aI E a1 8 ((finF u).1), aI E a2 64 ((finF u).2.1), aI E a3 8 ((finF u).2.2.1), aB E a4 64 ((finF u).2.2.2.1)]) (host := RX3) (c_S_writeHighestFirst l E rr n (outH row (finF u).1 i) (4 * i) (((finF u).1) i) (by omega) (by omega)) (gdT m126) rfl m1 (by decide +kernel) m125 (by decide +kernel) ⟨by decide, by decide⟩ rfl rfl (Nat.le_of_ble_eq_true rfl) ⟨by decide, by decide⟩ [5] [0, 1, 2, 3, 4] rfl rfl (by decide) (by decide) (by decide) dH_finish_93 (fun _ _ => ?_)
          show J E 5 g [ob h 2 [.ref a1, .ref a2, .ref a3, .ref a4, .int (nI ((finF u).2.2.2.2.1)), .int (nI ((finF u).2.2.2.2.2))], aI E a1 8 ((finF u).1), aI E a2 64 ((finF u).2.1), aI E a3 8 ((finF u).2.2.1), aB E a4 64 ((finF u).2.2.2.1), aB E rr n (wh (outH row (finF u).1 i) (4 * i) (((finF u).1) i))] [(0, .ref h), (1, .ref rr), (4, .int (nI i))] 0 0 96 []
          refine j_iinc hg (kq := 2) (v := nI (i + 1)) (lv' := [(4, .int (nI (i + 1))), (0, .ref h), (1, .ref rr)]) dH_finish_96 rfl (nI_add i 1) (by decide) rfl ?_
          refine j_goto hg (tgt := 74) dH_finish_99 (by decide) ?_
          refine j_pick [1, 2, 0] (lv' := [(0, .ref h), (1, .ref rr), (4, .int (nI (i + 1)))]) rfl ?_
          exact ih (i + 1) (by omega)
      exact loop2 (8) 0 (by omega)
    | succ zk ih =>
      intro i  hi
      refine j_iload hg 4 dH_finish_28 rfl ?_
      refine j_iload_n hg 3 dH_finish_30 rfl rfl ?_
      refine j_iconst hg (v := 4) dH_finish_31 (by decide) ?_
      refine j_iadd hg (v := nI ((120 - (abF u (-128)).2.2.2.2.1) % 64 + 4)) dH_finish_32 (nI_add ((120 - (abF u (-128)).2.2.2.2.1) % 64) 4) ?_
      refine j_nge_f hg (tgt := 47) i ((120 - (abF u (-128)).2.2.2.2.1) % 64 + 4) rfl rfl (by omega) (by omega) (by omega) dH_finish_33 (by decide) ?_
      refine j_aload_n hg 0 dH_finish_36 rfl rfl ?_
      refine j_iconst hg (v := 0) dH_finish_37 (by decide) ?_
      refine j_callV hg (n := 1) (y := yH_addByte) (rm := rm_H_addByte) (Ws := (cT yH_addByte cH_addByte 2 none)) (As := [.int 0]) (rest := []) (wr := [aB E rr n row]) 0 rfl rfl (c_H_addByte l E h a1 a2 a3 a4 ((zerF (abF u (-128)) i)) 0 (by decide) (zerF_lt (abF_lt hk) i)) (gdV m281 m283 ms14 m4 m284) rfl (by decide +kernel) ⟨by decide, by decide⟩ rfl rfl (Nat.le_of_ble_eq_true rfl) ⟨by decide, by decide⟩ [0, 1, 2, 3, 4] [5] rfl rfl (by decide) (by decide) (by decide) dH_finish_38 (fun _ _ => ?_)
      show J E 5 g [aB E rr n row, ob h 2 [.ref a1, .ref a2, .ref a3, .ref a4, .int (nI ((abF ((zerF (abF u (-128)) i)) 0).2.2.2.2.1)), .int (nI ((abF ((zerF (abF u (-128)) i)) 0).2.2.2.2.2))], aI E a1 8 ((abF ((zerF (abF u (-128)) i)) 0).1), aI E a2 64 ((abF ((zerF (abF u (-128)) i)) 0).2.1), aI E a3 8 ((abF ((zerF (abF u (-128)) i)) 0).2.2.1), aB E a4 64 ((abF ((zerF (abF u (-128)) i)) 0).2.2.2.1)] [(0, .ref h), (1, .ref rr), (2, .int (nI (u.2.2.2.2.2 * 8))), (3, .int (nI ((120 - (abF u (-128)).2.2.2.2.1) % 64))), (4, .int (nI i))] 0 0 41 []
      refine j_iinc hg (kq := 4) (v := nI (i + 1)) (lv' := [(4, .int (nI (i + 1))), (0, .ref h), (1, .ref rr), (2, .int (nI (u.2.2.2.2.2 * 8))), (3, .int (nI ((120 - (abF u (-128)).2.2.2.2.1) % 64)))]) dH_finish_41 rfl (nI_add i 1) (by decide) rfl ?_
      refine j_goto hg (tgt := 28) dH_finish_44 (by decide) ?_
      refine j_sub [1, 2, 3, 4, 5, 0] (ws' := [ob h 2 [.ref a1, .ref a2, .ref a3, .ref a4, .int (nI ((abF ((zerF (abF u (-128)) i)) 0).2.2.2.2.1)), .int (nI ((abF ((zerF (abF u (-128)) i)) 0).2.2.2.2.2))], aI E a1 8 ((abF ((zerF (abF u (-128)) i)) 0).1), aI E a2 64 ((abF ((zerF (abF u (-128)) i)) 0).2.1), aI E a3 8 ((abF ((zerF (abF u (-128)) i)) 0).2.2.1), aB E a4 64 ((abF ((zerF (abF u (-128)) i)) 0).2.2.2.1), aB E rr n row]) rfl (by decide) ?_
      refine j_pick [1, 2, 3, 4, 0] (lv' := [(0, .ref h), (1, .ref rr), (2, .int (nI (u.2.2.2.2.2 * 8))), (3, .int (nI ((120 - (abF u (-128)).2.2.2.2.1) % 64))), (4, .int (nI (i + 1)))]) rfl ?_
      exact ih (i + 1) (by omega)
  exact loop ((120 - (abF u (-128)).2.2.2.2.1) % 64 + 4) 0 (by omega)
