/-! SHA-256 of the class. -/
def sg1 (x : Int32) : Int32 := tr x 17 ^^^ tr x 19 ^^^ ushr x 10
def sg0 (x : Int32) : Int32 := tr x 7 ^^^ tr x 18 ^^^ ushr x 3
def sp1 (b s : Nat → Int32) : Nat → Nat → Int32
  | 0 => s
  | i + 1 => upd (sp1 b s i) i (rh b (4 * i))
def ext (s : Nat → Int32) (i : Nat) : Nat → Int32 := upd s i (sg1 (s (i - 2)) + s (i - 7) + sg0 (s (i - 15)) + s (i - 16))
def sp2 (s : Nat → Int32) : Nat → Nat → Int32
  | 0 => s
  | i + 1 => ext (sp2 s i) (16 + i)
def spF (b s : Nat → Int32) : Nat → Int32 := sp2 (sp1 b s 16) 48
def lowF (f : Nat → Int32) (x : Int32) : Int32 := f 7 + (tr (f 4) 6 ^^^ tr (f 4) 11 ^^^ tr (f 4) 25) + ((f 4 &&& f 5) ^^^ ((f 4 ^^^ (-1)) &&& f 6)) + x
def highF (f : Nat → Int32) : Int32 := (tr (f 0) 2 ^^^ tr (f 0) 13 ^^^ tr (f 0) 22) + ((f 0 &&& f 1) ^^^ (f 0 &&& f 2) ^^^ (f 1 &&& f 2))
def shf (f : Nat → Int32) : Nat → Nat → Int32
  | 0 => f
  | i + 1 => upd (shf f i) (7 - i) (shf f i (7 - i - 1))
def mr (f : Nat → Int32) (x : Int32) : Nat → Int32 := upd (upd (shf f 7) 4 (shf f 7 4 + lowF f x)) 0 (lowF f x + highF f)
def mrs (f s : Nat → Int32) : Nat → Nat → Int32
  | 0 => f
  | i + 1 => mr (mrs f s i) (s i + tADDED i)
def addS (st ro : Nat → Int32) : Nat → Nat → Int32
  | 0 => st
  | i + 1 => upd (addS st ro i) i (addS st ro i i + ro i)
/-- state, schedule, round, block, filled, size -/
abbrev HS : Type := (Nat → Int32) × (Nat → Int32) × (Nat → Int32) × (Nat → Int32) × Nat × Nat
def roF (st sc ro : Nat → Int32) : Nat → Int32 := mrs (va_cpy st ro 0 0 8) sc 64
def abF0 (u : HS) (v : Int32) : HS :=
  if u.2.2.2.2.1 = 63 then (addS u.1 (roF u.1 (spF (upd u.2.2.2.1 u.2.2.2.2.1 v) u.2.1) u.2.2.1) 8, spF (upd u.2.2.2.1 u.2.2.2.2.1 v) u.2.1, roF u.1 (spF (upd u.2.2.2.1 u.2.2.2.2.1 v) u.2.1) u.2.2.1, upd u.2.2.2.1 u.2.2.2.2.1 v, 0, u.2.2.2.2.2 + 1)
  else (u.1, u.2.1, u.2.2.1, upd u.2.2.2.1 u.2.2.2.2.1 v, u.2.2.2.2.1 + 1, u.2.2.2.2.2 + 1)
/-- the same, as a name that no unfolding opens -/
noncomputable def abF : HS → Int32 → HS := Classical.choose (⟨abF0, rfl⟩ : ∃ F : HS → Int32 → HS, F = abF0)
theorem abF_eq (u : HS) (v : Int32) : abF u v = abF0 u v := congrFun (congrFun (Classical.choose_spec (⟨abF0, rfl⟩ : ∃ F : HS → Int32 → HS, F = abF0)) u) v
theorem abF_lt {u : HS} {v : Int32} (h : u.2.2.2.2.1 < 64) : (abF u v).2.2.2.2.1 < 64 := by
  rw [abF_eq]
  unfold abF0
  split
  · show (0 : Nat) < 64
    decide
  · show u.2.2.2.2.1 + 1 < 64
    omega

def rm_H_spreadBlock : Room := { frames := 1, cells := 0, slots := 0, locals := 21 }
set_option maxHeartbeats 1000000 in
set_option maxRecDepth 100000 in
theorem c_H_spreadBlock (l : Launch) (E : Ev) (h a1 a2 a3 a4 k z : Nat) (b s : Nat → Int32) : MC E l yH_spreadBlock (cT yH_spreadBlock cH_spreadBlock 6 none) rm_H_spreadBlock [.ref h] [ob h 2 [.ref a1, .ref a2, .ref a3, .ref a4, .int (nI k), .int (nI z)], aI E a2 64 s, aB E a4 64 b] Unit (fun _ => True) (fun _ => none) (fun _ => [ob h 2 [.ref a1, .ref a2, .ref a3, .ref a4, .int (nI k), .int (nI z)], aI E a2 64 (spF b s), aB E a4 64 b]) := by
  refine MC.of (cc := cH_spreadBlock) (nL := 6) (ret := none) (by decide) rfl cT_in (Nat.le_of_ble_eq_true rfl) (fun g hg hR => ?_)
  show J E 6 g [ob h 2 [.ref a1, .ref a2, .ref a3, .ref a4, .int (nI k), .int (nI z)], aI E a2 64 s, aB E a4 64 b] [(0, .ref h)] 0 0 0 []
  refine j_iconst hg (v := 0) dH_spreadBlock_0 (by decide) ?_
  refine j_istore_n hg (lv' := [(1, .int 0), (0, .ref h)]) dH_spreadBlock_1 rfl (by decide) rfl ?_
  refine j_pick [1, 0] (lv' := [(0, .ref h), (1, .int 0)]) rfl ?_
  have loop : ∀ (zk i : Nat), i + zk = 16 → J E 6 g [ob h 2 [.ref a1, .ref a2, .ref a3, .ref a4, .int (nI k), .int (nI z)], aI E a2 64 (sp1 b s i), aB E a4 64 b] [(0, .ref h), (1, .int (nI i))] 0 0 2 [] := by
    intro zk
    induction zk with
    | zero =>
      intro i  hi
      obtain rfl : 16 = i := by omega
      refine j_iload_n hg 1 dH_spreadBlock_2 rfl rfl ?_
      refine j_bipush hg (v := 16) dH_spreadBlock_3 (by decide) ?_
      refine j_nge_t hg (tgt := 30) 16 16 rfl rfl (by omega) (by omega) (by omega) dH_spreadBlock_5 (by decide) ?_
      refine j_bipush hg (v := 16) dH_spreadBlock_30 (by decide) ?_
      refine j_istore_n hg (lv' := [(1, .int 16), (0, .ref h)]) dH_spreadBlock_32 rfl (by decide) rfl ?_
      refine j_pick [1, 0] (lv' := [(0, .ref h), (1, .int 16)]) rfl ?_
      have loop2 : ∀ (zk i : Nat), i + zk = 48 → J E 6 g [ob h 2 [.ref a1, .ref a2, .ref a3, .ref a4, .int (nI k), .int (nI z)], aI E a2 64 (sp2 (sp1 b s 16) i), aB E a4 64 b] [(0, .ref h), (1, .int (nI (16 + i)))] 0 0 33 [] := by
        intro zk
        induction zk with
        | zero =>
          intro i  hi
          obtain rfl : 48 = i := by omega
          refine j_iload_n hg 1 dH_spreadBlock_33 rfl rfl ?_
          refine j_bipush hg (v := 64) dH_spreadBlock_34 (by decide) ?_
          refine j_nge_t hg (tgt := 134) (16 + 48) 64 rfl rfl (by omega) (by omega) (by omega) dH_spreadBlock_36 (by decide) ?_
          exact j_vret hg hR () trivial rfl [0, 1, 2] rfl (by decide) (by decide) (by decide) dH_spreadBlock_134
        | succ zk ih =>
          intro i  hi
          refine j_iload_n hg 1 dH_spreadBlock_33 rfl rfl ?_
          refine j_bipush hg (v := 64) dH_spreadBlock_34 (by decide) ?_
          refine j_nge_f hg (tgt := 134) (16 + i) 64 rfl rfl (by omega) (by omega) (by omega) dH_spreadBlock_36 (by decide) ?_
          refine j_aload_n hg 0 dH_spreadBlock_39 rfl rfl ?_
          refine j_get hg (C := RX2) (T := TX2) (N := 6) inX2 0 rfl rfl 1 (by decide) m65 rfl dH_spreadBlock_40 ?_
          refine j_iload_n hg 1 dH_spreadBlock_43 rfl rfl ?_
          refine j_iconst hg (v := 2) dH_spreadBlock_44 (by decide) ?_
          refine j_isub hg (v := nI ((16 + i) - 2)) dH_spreadBlock_45 (pk_sub (a := 16 + i) (b := 2) (by omega)) ?_
          refine j_iald hg (v := (sp2 (sp1 b s 16) i) ((16 + i) - 2)) 1 ((16 + i) - 2) rfl rfl (by omega) (by omega) rfl dH_spreadBlock_46 ?_
          refine j_istore_n hg (lv' := [(2, .int ((sp2 (sp1 b s 16) i) ((16 + i) - 2))), (0, .ref h), (1, .int (nI (16 + i)))]) dH_spreadBlock_47 rfl (by decide) rfl ?_
          refine j_aload_n hg 1 dH_spreadBlock_48 rfl rfl ?_
          refine j_get hg (C := RX2) (T := TX2) (N := 6) inX2 0 rfl rfl 1 (by decide) m65 rfl dH_spreadBlock_49 ?_
          refine j_iload_n hg 2 dH_spreadBlock_52 rfl rfl ?_
          refine j_bipush hg (v := 15) dH_spreadBlock_53 (by decide) ?_
          refine j_isub hg (v := nI ((16 + i) - 15)) dH_spreadBlock_55 (pk_sub (a := 16 + i) (b := 15) (by omega)) ?_
          refine j_iald hg (v := (sp2 (sp1 b s 16) i) ((16 + i) - 15)) 1 ((16 + i) - 15) rfl rfl (by omega) (by omega) rfl dH_spreadBlock_56 ?_
          refine j_istore_n hg (lv' := [(3, .int ((sp2 (sp1 b s 16) i) ((16 + i) - 15))), (2, .int ((sp2 (sp1 b s 16) i) ((16 + i) - 2))), (0, .ref h), (1, .int (nI (16 + i)))]) dH_spreadBlock_57 rfl (by decide) rfl ?_
          refine j_iload_n hg 1 dH_spreadBlock_58 rfl rfl ?_
          refine j_bipush hg (v := 17) dH_spreadBlock_59 (by decide) ?_
          refine j_callSN hg (n := 2) (y := yS_turnRight) (rm := rm_S_turnRight) (Ws := (cT yS_turnRight cS_turnRight 2 (some .int))) (As := [.int ((sp2 (sp1 b s 16) i) ((16 + i) - 2)), .int 17]) (rest := []) (wr := [ob h 2 [.ref a1, .ref a2, .ref a3, .ref a4, .int (nI k), .int (nI z)], aI E a2 64 (sp2 (sp1 b s 16) i), aB E a4 64 b]) (host := RX3) (c_S_turnRight l E ((sp2 (sp1 b s 16) i) ((16 + i) - 2)) 17) (gdT m294) rfl m1 (by decide +kernel) m293 (by decide +kernel) ⟨by decide, by decide⟩ rfl rfl (Nat.le_of_ble_eq_true rfl) ⟨by decide, by decide⟩ [] [0, 1, 2] rfl rfl (by decide) (by decide) (by decide) dH_spreadBlock_61 (fun _ _ => ?_)
          show J E 6 g [ob h 2 [.ref a1, .ref a2, .ref a3, .ref a4, .int (nI k), .int (nI z)], aI E a2 64 (sp2 (sp1 b s 16) i), aB E a4 64 b] [(3, .int ((sp2 (sp1 b s 16) i) ((16 + i) - 15))), (2, .int ((sp2 (sp1 b s 16) i) ((16 + i) - 2))), (0, .ref h), (1, .int (nI (16 + i)))] 0 0 64 [.int (tr ((sp2 (sp1 b s 16) i) ((16 + i) - 2)) 17)]
          refine j_iload_n hg 1 dH_spreadBlock_64 rfl rfl ?_
          refine j_bipush hg (v := 19) dH_spreadBlock_65 (by decide) ?_
          refine j_callSN hg (n := 2) (y := yS_turnRight) (rm := rm_S_turnRight) (Ws := (cT yS_turnRight cS_turnRight 2 (some .int))) (As := [.int ((sp2 (sp1 b s 16) i) ((16 + i) - 2)), .int 19]) (rest := [.int (tr ((sp2 (sp1 b s 16) i) ((16 + i) - 2)) 17)]) (wr := [ob h 2 [.ref a1, .ref a2, .ref a3, .ref a4, .int (nI k), .int (nI z)], aI E a2 64 (sp2 (sp1 b s 16) i), aB E a4 64 b]) (host := RX3) (c_S_turnRight l E ((sp2 (sp1 b s 16) i) ((16 + i) - 2)) 19) (gdT m294) rfl m1 (by decide +kernel) m293 (by decide +kernel) ⟨by decide, by decide⟩ rfl rfl (Nat.le_of_ble_eq_true rfl) ⟨by decide, by decide⟩ [] [0, 1, 2] rfl rfl (by decide) (by decide) (by decide) dH_spreadBlock_67 (fun _ _ => ?_)
          show J E 6 g [ob h 2 [.ref a1, .ref a2, .ref a3, .ref a4, .int (nI k), .int (nI z)], aI E a2 64 (sp2 (sp1 b s 16) i), aB E a4 64 b] [(3, .int ((sp2 (sp1 b s 16) i) ((16 + i) - 15))), (2, .int ((sp2 (sp1 b s 16) i) ((16 + i) - 2))), (0, .ref h), (1, .int (nI (16 + i)))] 0 0 70 [.int (tr ((sp2 (sp1 b s 16) i) ((16 + i) - 2)) 19), .int (tr ((sp2 (sp1 b s 16) i) ((16 + i) - 2)) 17)]
          refine j_ixor hg (v := (tr ((sp2 (sp1 b s 16) i) ((16 + i) - 2)) 17) ^^^ (tr ((sp2 (sp1 b s 16) i) ((16 + i) - 2)) 19)) dH_spreadBlock_70 rfl ?_
          refine j_iload_n hg 1 dH_spreadBlock_71 rfl rfl ?_
          refine j_bipush hg (v := 10) dH_spreadBlock_72 (by decide) ?_
          refine j_iushr hg (v := ushr ((sp2 (sp1 b s 16) i) ((16 + i) - 2)) 10) dH_spreadBlock_74 rfl ?_
          refine j_ixor hg (v := ((tr ((sp2 (sp1 b s 16) i) ((16 + i) - 2)) 17) ^^^ (tr ((sp2 (sp1 b s 16) i) ((16 + i) - 2)) 19)) ^^^ (ushr ((sp2 (sp1 b s 16) i) ((16 + i) - 2)) 10)) dH_spreadBlock_75 rfl ?_
          refine j_istore hg (lv' := [(4, .int (((tr ((sp2 (sp1 b s 16) i) ((16 + i) - 2)) 17) ^^^ (tr ((sp2 (sp1 b s 16) i) ((16 + i) - 2)) 19)) ^^^ (ushr ((sp2 (sp1 b s 16) i) ((16 + i) - 2)) 10))), (3, .int ((sp2 (sp1 b s 16) i) ((16 + i) - 15))), (2, .int ((sp2 (sp1 b s 16) i) ((16 + i) - 2))), (0, .ref h), (1, .int (nI (16 + i)))]) dH_spreadBlock_76 (by decide) rfl ?_
          refine j_iload_n hg 1 dH_spreadBlock_78 rfl rfl ?_
          refine j_bipush hg (v := 7) dH_spreadBlock_79 (by decide) ?_
          refine j_callSN hg (n := 2) (y := yS_turnRight) (rm := rm_S_turnRight) (Ws := (cT yS_turnRight cS_turnRight 2 (some .int))) (As := [.int ((sp2 (sp1 b s 16) i) ((16 + i) - 15)), .int 7]) (rest := []) (wr := [ob h 2 [.ref a1, .ref a2, .ref a3, .ref a4, .int (nI k), .int (nI z)], aI E a2 64 (sp2 (sp1 b s 16) i), aB E a4 64 b]) (host := RX3) (c_S_turnRight l E ((sp2 (sp1 b s 16) i) ((16 + i) - 15)) 7) (gdT m294) rfl m1 (by decide +kernel) m293 (by decide +kernel) ⟨by decide, by decide⟩ rfl rfl (Nat.le_of_ble_eq_true rfl) ⟨by decide, by decide⟩ [] [0, 1, 2] rfl rfl (by decide) (by decide) (by decide) dH_spreadBlock_81 (fun _ _ => ?_)
          show J E 6 g [ob h 2 [.ref a1, .ref a2, .ref a3, .ref a4, .int (nI k), .int (nI z)], aI E a2 64 (sp2 (sp1 b s 16) i), aB E a4 64 b] [(4, .int (((tr ((sp2 (sp1 b s 16) i) ((16 + i) - 2)) 17) ^^^ (tr ((sp2 (sp1 b s 16) i) ((16 + i) - 2)) 19)) ^^^ (ushr ((sp2 (sp1 b s 16) i) ((16 + i) - 2)) 10))), (3, .int ((sp2 (sp1 b s 16) i) ((16 + i) - 15))), (2, .int ((sp2 (sp1 b s 16) i) ((16 + i) - 2))), (0, .ref h), (1, .int (nI (16 + i)))] 0 0 84 [.int (tr ((sp2 (sp1 b s 16) i) ((16 + i) - 15)) 7)]
          refine j_iload_n hg 1 dH_spreadBlock_84 rfl rfl ?_
          refine j_bipush hg (v := 18) dH_spreadBlock_85 (by decide) ?_
          refine j_callSN hg (n := 2) (y := yS_turnRight) (rm := rm_S_turnRight) (Ws := (cT yS_turnRight cS_turnRight 2 (some .int))) (As := [.int ((sp2 (sp1 b s 16) i) ((16 + i) - 15)), .int 18]) (rest := [.int (tr ((sp2 (sp1 b s 16) i) ((16 + i) - 15)) 7)]) (wr := [ob h 2 [.ref a1, .ref a2, .ref a3, .ref a4, .int (nI k), .int (nI z)], aI E a2 64 (sp2 (sp1 b s 16) i), aB E a4 64 b]) (host := RX3) (c_S_turnRight l E ((sp2 (sp1 b s 16) i) ((16 + i) - 15)) 18) (gdT m294) rfl m1 (by decide +kernel) m293 (by decide +kernel) ⟨by decide, by decide⟩ rfl rfl (Nat.le_of_ble_eq_true rfl) ⟨by decide, by decide⟩ [] [0, 1, 2] rfl rfl (by decide) (by decide) (by decide) dH_spreadBlock_87 (fun _ _ => ?_)
          show J E 6 g [ob h 2 [.ref a1, .ref a2, .ref a3, .ref a4, .int (nI k), .int (nI z)], aI E a2 64 (sp2 (sp1 b s 16) i), aB E a4 64 b] [(4, .int (((tr ((sp2 (sp1 b s 16) i) ((16 + i) - 2)) 17) ^^^ (tr ((sp2 (sp1 b s 16) i) ((16 + i) - 2)) 19)) ^^^ (ushr ((sp2 (sp1 b s 16) i) ((16 + i) - 2)) 10))), (3, .int ((sp2 (sp1 b s 16) i) ((16 + i) - 15))), (2, .int ((sp2 (sp1 b s 16) i) ((16 + i) - 2))), (0, .ref h), (1, .int (nI (16 + i)))] 0 0 90 [.int (tr ((sp2 (sp1 b s 16) i) ((16 + i) - 15)) 18), .int (tr ((sp2 (sp1 b s 16) i) ((16 + i) - 15)) 7)]
          refine j_ixor hg (v := (tr ((sp2 (sp1 b s 16) i) ((16 + i) - 15)) 7) ^^^ (tr ((sp2 (sp1 b s 16) i) ((16 + i) - 15)) 18)) dH_spreadBlock_90 rfl ?_
          refine j_iload_n hg 1 dH_spreadBlock_91 rfl rfl ?_
          refine j_iconst hg (v := 3) dH_spreadBlock_92 (by decide) ?_
          refine j_iushr hg (v := ushr ((sp2 (sp1 b s 16) i) ((16 + i) - 15)) 3) dH_spreadBlock_93 rfl ?_
          refine j_ixor hg (v := ((tr ((sp2 (sp1 b s 16) i) ((16 + i) - 15)) 7) ^^^ (tr ((sp2 (sp1 b s 16) i) ((16 + i) - 15)) 18)) ^^^ (ushr ((sp2 (sp1 b s 16) i) ((16 + i) - 15)) 3)) dH_spreadBlock_94 rfl ?_
          refine j_istore hg (lv' := [(5, .int (((tr ((sp2 (sp1 b s 16) i) ((16 + i) - 15)) 7) ^^^ (tr ((sp2 (sp1 b s 16) i) ((16 + i) - 15)) 18)) ^^^ (ushr ((sp2 (sp1 b s 16) i) ((16 + i) - 15)) 3))), (4, .int (((tr ((sp2 (sp1 b s 16) i) ((16 + i) - 2)) 17) ^^^ (tr ((sp2 (sp1 b s 16) i) ((16 + i) - 2)) 19)) ^^^ (ushr ((sp2 (sp1 b s 16) i) ((16 + i) - 2)) 10))), (3, .int ((sp2 (sp1 b s 16) i) ((16 + i) - 15))), (2, .int ((sp2 (sp1 b s 16) i) ((16 + i) - 2))), (0, .ref h), (1, .int (nI (16 + i)))]) dH_spreadBlock_95 (by decide) rfl ?_
          refine j_aload_n hg 4 dH_spreadBlock_97 rfl rfl ?_
          refine j_get hg (C := RX2) (T := TX2) (N := 6) inX2 0 rfl rfl 1 (by decide) m65 rfl dH_spreadBlock_98 ?_
          refine j_iload_n hg 5 dH_spreadBlock_101 rfl rfl ?_
          refine j_iload hg 1 dH_spreadBlock_102 rfl ?_
          refine j_aload_n hg 4 dH_spreadBlock_104 rfl rfl ?_
          refine j_get hg (C := RX2) (T := TX2) (N := 6) inX2 0 rfl rfl 1 (by decide) m65 rfl dH_spreadBlock_105 ?_
          refine j_iload_n hg 5 dH_spreadBlock_108 rfl rfl ?_
          refine j_bipush hg (v := 7) dH_spreadBlock_109 (by decide) ?_
          refine j_isub hg (v := nI ((16 + i) - 7)) dH_spreadBlock_111 (pk_sub (a := 16 + i) (b := 7) (by omega)) ?_
          refine j_iald hg (v := (sp2 (sp1 b s 16) i) ((16 + i) - 7)) 1 ((16 + i) - 7) rfl rfl (by omega) (by omega) rfl dH_spreadBlock_112 ?_
          refine j_iadd hg (v := (((tr ((sp2 (sp1 b s 16) i) ((16 + i) - 2)) 17) ^^^ (tr ((sp2 (sp1 b s 16) i) ((16 + i) - 2)) 19)) ^^^ (ushr ((sp2 (sp1 b s 16) i) ((16 + i) - 2)) 10)) + ((sp2 (sp1 b s 16) i) ((16 + i) - 7))) dH_spreadBlock_113 rfl ?_
          refine j_iload hg 0 dH_spreadBlock_114 rfl ?_
          refine j_iadd hg (v := ((((tr ((sp2 (sp1 b s 16) i) ((16 + i) - 2)) 17) ^^^ (tr ((sp2 (sp1 b s 16) i) ((16 + i) - 2)) 19)) ^^^ (ushr ((sp2 (sp1 b s 16) i) ((16 + i) - 2)) 10)) + ((sp2 (sp1 b s 16) i) ((16 + i) - 7))) + (((tr ((sp2 (sp1 b s 16) i) ((16 + i) - 15)) 7) ^^^ (tr ((sp2 (sp1 b s 16) i) ((16 + i) - 15)) 18)) ^^^ (ushr ((sp2 (sp1 b s 16) i) ((16 + i) - 15)) 3))) dH_spreadBlock_116 rfl ?_
          refine j_aload_n hg 4 dH_spreadBlock_117 rfl rfl ?_
          refine j_get hg (C := RX2) (T := TX2) (N := 6) inX2 0 rfl rfl 1 (by decide) m65 rfl dH_spreadBlock_118 ?_
          refine j_iload_n hg 5 dH_spreadBlock_121 rfl rfl ?_
          refine j_bipush hg (v := 16) dH_spreadBlock_122 (by decide) ?_
          refine j_isub hg (v := nI ((16 + i) - 16)) dH_spreadBlock_124 (pk_sub (a := 16 + i) (b := 16) (by omega)) ?_
          refine j_iald hg (v := (sp2 (sp1 b s 16) i) ((16 + i) - 16)) 1 ((16 + i) - 16) rfl rfl (by omega) (by omega) rfl dH_spreadBlock_125 ?_
          refine j_iadd hg (v := (((((tr ((sp2 (sp1 b s 16) i) ((16 + i) - 2)) 17) ^^^ (tr ((sp2 (sp1 b s 16) i) ((16 + i) - 2)) 19)) ^^^ (ushr ((sp2 (sp1 b s 16) i) ((16 + i) - 2)) 10)) + ((sp2 (sp1 b s 16) i) ((16 + i) - 7))) + (((tr ((sp2 (sp1 b s 16) i) ((16 + i) - 15)) 7) ^^^ (tr ((sp2 (sp1 b s 16) i) ((16 + i) - 15)) 18)) ^^^ (ushr ((sp2 (sp1 b s 16) i) ((16 + i) - 15)) 3))) + ((sp2 (sp1 b s 16) i) ((16 + i) - 16))) dH_spreadBlock_126 rfl ?_
          refine j_iast hg (ws' := [ob h 2 [.ref a1, .ref a2, .ref a3, .ref a4, .int (nI k), .int (nI z)], aI E a2 64 (ext (sp2 (sp1 b s 16) i) (16 + i)), aB E a4 64 b]) 1 (16 + i) rfl rfl (by omega) (by omega) rfl dH_spreadBlock_127 ?_
          refine j_iinc hg (kq := 5) (v := nI (16 + (i + 1))) (lv' := [(1, .int (nI (16 + (i + 1)))), (5, .int (((tr ((sp2 (sp1 b s 16) i) ((16 + i) - 15)) 7) ^^^ (tr ((sp2 (sp1 b s 16) i) ((16 + i) - 15)) 18)) ^^^ (ushr ((sp2 (sp1 b s 16) i) ((16 + i) - 15)) 3))), (4, .int (((tr ((sp2 (sp1 b s 16) i) ((16 + i) - 2)) 17) ^^^ (tr ((sp2 (sp1 b s 16) i) ((16 + i) - 2)) 19)) ^^^ (ushr ((sp2 (sp1 b s 16) i) ((16 + i) - 2)) 10))), (3, .int ((sp2 (sp1 b s 16) i) ((16 + i) - 15))), (2, .int ((sp2 (sp1 b s 16) i) ((16 + i) - 2))), (0, .ref h)]) dH_spreadBlock_128 rfl (Eq.trans (nI_add (16 + i) 1) (congrArg nI (by omega))) (by decide) rfl ?_
          refine j_goto hg (tgt := 33) dH_spreadBlock_131 (by decide) ?_
          refine j_pick [5, 0] (lv' := [(0, .ref h), (1, .int (nI (16 + (i + 1))))]) rfl ?_
          exact ih (i + 1) (by omega)
      exact loop2 (48) 0 (by omega)
    | succ zk ih =>
      intro i  hi
      refine j_iload_n hg 1 dH_spreadBlock_2 rfl rfl ?_
      refine j_bipush hg (v := 16) dH_spreadBlock_3 (by decide) ?_
      refine j_nge_f hg (tgt := 30) i 16 rfl rfl (by omega) (by omega) (by omega) dH_spreadBlock_5 (by decide) ?_
      refine j_aload_n hg 0 dH_spreadBlock_8 rfl rfl ?_
      refine j_get hg (C := RX2) (T := TX2) (N := 6) inX2 0 rfl rfl 1 (by decide) m65 rfl dH_spreadBlock_9 ?_
      refine j_iload_n hg 1 dH_spreadBlock_12 rfl rfl ?_
      refine j_aload_n hg 0 dH_spreadBlock_13 rfl rfl ?_
      refine j_get hg (C := RX2) (T := TX2) (N := 6) inX2 0 rfl rfl 3 (by decide) m67 rfl dH_spreadBlock_14 ?_
      refine j_iconst hg (v := 4) dH_spreadBlock_17 (by decide) ?_
      refine j_iload_n hg 1 dH_spreadBlock_18 rfl rfl ?_
      refine j_imul hg (v := nI (4 * i)) dH_spreadBlock_19 (pk_mul 4 i) ?_
      refine j_callSN hg (n := 2) (y := yS_readHighestFirst) (rm := rm_S_readHighestFirst) (Ws := (cT yS_readHighestFirst cS_readHighestFirst 2 (some .int))) (As := [.ref a4, .int (nI (4 * i))]) (rest := [.int (nI i), .ref a2]) (wr := [ob h 2 [.ref a1, .ref a2, .ref a3, .ref a4, .int (nI k), .int (nI z)], aI E a2 64 (sp1 b s i)]) (host := RX3) (c_S_readHighestFirst l E a4 64 b (4 * i) (by omega) (by omega)) (gdT m291) rfl m1 (by decide +kernel) m290 (by decide +kernel) ⟨by decide, by decide⟩ rfl rfl (Nat.le_of_ble_eq_true rfl) ⟨by decide, by decide⟩ [2] [0, 1] rfl rfl (by decide) (by decide) (by decide) dH_spreadBlock_20 (fun _ _ => ?_)
      show J E 6 g [ob h 2 [.ref a1, .ref a2, .ref a3, .ref a4, .int (nI k), .int (nI z)], aI E a2 64 (sp1 b s i), aB E a4 64 b] [(0, .ref h), (1, .int (nI i))] 0 0 23 [.int (rh b (4 * i)), .int (nI i), .ref a2]
      refine j_iast hg (ws' := [ob h 2 [.ref a1, .ref a2, .ref a3, .ref a4, .int (nI k), .int (nI z)], aI E a2 64 (upd (sp1 b s i) i (rh b (4 * i))), aB E a4 64 b]) 1 i rfl rfl (by omega) (by omega) rfl dH_spreadBlock_23 ?_
      refine j_iinc hg (kq := 1) (v := nI (i + 1)) (lv' := [(1, .int (nI (i + 1))), (0, .ref h)]) dH_spreadBlock_24 rfl (nI_add i 1) (by decide) rfl ?_
      refine j_goto hg (tgt := 2) dH_spreadBlock_27 (by decide) ?_
      refine j_pick [1, 0] (lv' := [(0, .ref h), (1, .int (nI (i + 1)))]) rfl ?_
      exact ih (i + 1) (by omega)
  exact loop (16) 0 (by omega)

def rm_H_mixRound : Room := { frames := 1, cells := 0, slots := 0, locals := 21 }
set_option maxHeartbeats 1000000 in
set_option maxRecDepth 100000 in
theorem c_H_mixRound (l : Launch) (E : Ev) (h a1 a2 a3 a4 k z : Nat) (f : Nat → Int32) (x : Int32) : MC E l yH_mixRound (cT yH_mixRound cH_mixRound 9 none) rm_H_mixRound [.ref h, .int x] [ob h 2 [.ref a1, .ref a2, .ref a3, .ref a4, .int (nI k), .int (nI z)], aI E a3 8 f] Unit (fun _ => True) (fun _ => none) (fun _ => [ob h 2 [.ref a1, .ref a2, .ref a3, .ref a4, .int (nI k), .int (nI z)], aI E a3 8 (mr f x)]) := by
  refine MC.of (cc := cH_mixRound) (nL := 9) (ret := none) (by decide) rfl cT_in (Nat.le_of_ble_eq_true rfl) (fun g hg hR => ?_)
  show J E 9 g [ob h 2 [.ref a1, .ref a2, .ref a3, .ref a4, .int (nI k), .int (nI z)], aI E a3 8 f] [(0, .ref h), (1, .int x)] 0 0 0 []
  refine j_aload_n hg 0 dH_mixRound_0 rfl rfl ?_
  refine j_get hg (C := RX2) (T := TX2) (N := 6) inX2 0 rfl rfl 2 (by decide) m66 rfl dH_mixRound_1 ?_
  refine j_iconst hg (v := 0) dH_mixRound_4 (by decide) ?_
  refine j_iald hg (v := f 0) 1 0 rfl rfl (by omega) (by omega) rfl dH_mixRound_5 ?_
  refine j_istore_n hg (lv' := [(2, .int (f 0)), (0, .ref h), (1, .int x)]) dH_mixRound_6 rfl (by decide) rfl ?_
  refine j_aload_n hg 1 dH_mixRound_7 rfl rfl ?_
  refine j_get hg (C := RX2) (T := TX2) (N := 6) inX2 0 rfl rfl 2 (by decide) m66 rfl dH_mixRound_8 ?_
  refine j_iconst hg (v := 4) dH_mixRound_11 (by decide) ?_
  refine j_iald hg (v := f 4) 1 4 rfl rfl (by omega) (by omega) rfl dH_mixRound_12 ?_
  refine j_istore_n hg (lv' := [(3, .int (f 4)), (2, .int (f 0)), (0, .ref h), (1, .int x)]) dH_mixRound_13 rfl (by decide) rfl ?_
  refine j_iload_n hg 0 dH_mixRound_14 rfl rfl ?_
  refine j_aload_n hg 2 dH_mixRound_15 rfl rfl ?_
  refine j_get hg (C := RX2) (T := TX2) (N := 6) inX2 0 rfl rfl 2 (by decide) m66 rfl dH_mixRound_16 ?_
  refine j_iconst hg (v := 5) dH_mixRound_19 (by decide) ?_
  refine j_iald hg (v := f 5) 1 5 rfl rfl (by omega) (by omega) rfl dH_mixRound_20 ?_
  refine j_iand hg (v := (f 4) &&& (f 5)) dH_mixRound_21 rfl ?_
  refine j_iload_n hg 0 dH_mixRound_22 rfl rfl ?_
  refine j_iconst hg (v := -1) dH_mixRound_23 (by decide) ?_
  refine j_ixor hg (v := (f 4) ^^^ (-1)) dH_mixRound_24 rfl ?_
  refine j_aload_n hg 2 dH_mixRound_25 rfl rfl ?_
  refine j_get hg (C := RX2) (T := TX2) (N := 6) inX2 0 rfl rfl 2 (by decide) m66 rfl dH_mixRound_26 ?_
  refine j_bipush hg (v := 6) dH_mixRound_29 (by decide) ?_
  refine j_iald hg (v := f 6) 1 6 rfl rfl (by omega) (by omega) rfl dH_mixRound_31 ?_
  refine j_iand hg (v := ((f 4) ^^^ (-1)) &&& (f 6)) dH_mixRound_32 rfl ?_
  refine j_ixor hg (v := ((f 4) &&& (f 5)) ^^^ (((f 4) ^^^ (-1)) &&& (f 6))) dH_mixRound_33 rfl ?_
  refine j_istore hg (lv' := [(4, .int (((f 4) &&& (f 5)) ^^^ (((f 4) ^^^ (-1)) &&& (f 6)))), (3, .int (f 4)), (2, .int (f 0)), (0, .ref h), (1, .int x)]) dH_mixRound_34 (by decide) rfl ?_
  refine j_iload_n hg 2 dH_mixRound_36 rfl rfl ?_
  refine j_aload_n hg 3 dH_mixRound_37 rfl rfl ?_
  refine j_get hg (C := RX2) (T := TX2) (N := 6) inX2 0 rfl rfl 2 (by decide) m66 rfl dH_mixRound_38 ?_
  refine j_iconst hg (v := 1) dH_mixRound_41 (by decide) ?_
  refine j_iald hg (v := f 1) 1 1 rfl rfl (by omega) (by omega) rfl dH_mixRound_42 ?_
  refine j_iand hg (v := (f 0) &&& (f 1)) dH_mixRound_43 rfl ?_
  refine j_iload_n hg 2 dH_mixRound_44 rfl rfl ?_
  refine j_aload_n hg 3 dH_mixRound_45 rfl rfl ?_
  refine j_get hg (C := RX2) (T := TX2) (N := 6) inX2 0 rfl rfl 2 (by decide) m66 rfl dH_mixRound_46 ?_
  refine j_iconst hg (v := 2) dH_mixRound_49 (by decide) ?_
  refine j_iald hg (v := f 2) 1 2 rfl rfl (by omega) (by omega) rfl dH_mixRound_50 ?_
  refine j_iand hg (v := (f 0) &&& (f 2)) dH_mixRound_51 rfl ?_
  refine j_ixor hg (v := ((f 0) &&& (f 1)) ^^^ ((f 0) &&& (f 2))) dH_mixRound_52 rfl ?_
  refine j_aload_n hg 3 dH_mixRound_53 rfl rfl ?_
  refine j_get hg (C := RX2) (T := TX2) (N := 6) inX2 0 rfl rfl 2 (by decide) m66 rfl dH_mixRound_54 ?_
  refine j_iconst hg (v := 1) dH_mixRound_57 (by decide) ?_
  refine j_iald hg (v := f 1) 1 1 rfl rfl (by omega) (by omega) rfl dH_mixRound_58 ?_
  refine j_aload_n hg 3 dH_mixRound_59 rfl rfl ?_
  refine j_get hg (C := RX2) (T := TX2) (N := 6) inX2 0 rfl rfl 2 (by decide) m66 rfl dH_mixRound_60 ?_
  refine j_iconst hg (v := 2) dH_mixRound_63 (by decide) ?_
  refine j_iald hg (v := f 2) 1 2 rfl rfl (by omega) (by omega) rfl dH_mixRound_64 ?_
  refine j_iand hg (v := (f 1) &&& (f 2)) dH_mixRound_65 rfl ?_
  refine j_ixor hg (v := (((f 0) &&& (f 1)) ^^^ ((f 0) &&& (f 2))) ^^^ ((f 1) &&& (f 2))) dH_mixRound_66 rfl ?_
  refine j_istore hg (lv' := [(5, .int ((((f 0) &&& (f 1)) ^^^ ((f 0) &&& (f 2))) ^^^ ((f 1) &&& (f 2)))), (4, .int (((f 4) &&& (f 5)) ^^^ (((f 4) ^^^ (-1)) &&& (f 6)))), (3, .int (f 4)), (2, .int (f 0)), (0, .ref h), (1, .int x)]) dH_mixRound_67 (by decide) rfl ?_
  refine j_aload_n hg 4 dH_mixRound_69 rfl rfl ?_
  refine j_get hg (C := RX2) (T := TX2) (N := 6) inX2 0 rfl rfl 2 (by decide) m66 rfl dH_mixRound_70 ?_
  refine j_bipush hg (v := 7) dH_mixRound_73 (by decide) ?_
  refine j_iald hg (v := f 7) 1 7 rfl rfl (by omega) (by omega) rfl dH_mixRound_75 ?_
  refine j_iload_n hg 2 dH_mixRound_76 rfl rfl ?_
  refine j_bipush hg (v := 6) dH_mixRound_77 (by decide) ?_
  refine j_callSN hg (n := 2) (y := yS_turnRight) (rm := rm_S_turnRight) (Ws := (cT yS_turnRight cS_turnRight 2 (some .int))) (As := [.int (f 4), .int 6]) (rest := [.int (f 7)]) (wr := [ob h 2 [.ref a1, .ref a2, .ref a3, .ref a4, .int (nI k), .int (nI z)], aI E a3 8 f]) (host := RX3) (c_S_turnRight l E (f 4) 6) (gdT m294) rfl m1 (by decide +kernel) m293 (by decide +kernel) ⟨by decide, by decide⟩ rfl rfl (Nat.le_of_ble_eq_true rfl) ⟨by decide, by decide⟩ [] [0, 1] rfl rfl (by decide) (by decide) (by decide) dH_mixRound_79 (fun _ _ => ?_)
  show J E 9 g [ob h 2 [.ref a1, .ref a2, .ref a3, .ref a4, .int (nI k), .int (nI z)], aI E a3 8 f] [(5, .int ((((f 0) &&& (f 1)) ^^^ ((f 0) &&& (f 2))) ^^^ ((f 1) &&& (f 2)))), (4, .int (((f 4) &&& (f 5)) ^^^ (((f 4) ^^^ (-1)) &&& (f 6)))), (3, .int (f 4)), (2, .int (f 0)), (0, .ref h), (1, .int x)] 0 0 82 [.int (tr (f 4) 6), .int (f 7)]
  refine j_iload_n hg 2 dH_mixRound_82 rfl rfl ?_
  refine j_bipush hg (v := 11) dH_mixRound_83 (by decide) ?_
  refine j_callSN hg (n := 2) (y := yS_turnRight) (rm := rm_S_turnRight) (Ws := (cT yS_turnRight cS_turnRight 2 (some .int))) (As := [.int (f 4), .int 11]) (rest := [.int (tr (f 4) 6), .int (f 7)]) (wr := [ob h 2 [.ref a1, .ref a2, .ref a3, .ref a4, .int (nI k), .int (nI z)], aI E a3 8 f]) (host := RX3) (c_S_turnRight l E (f 4) 11) (gdT m294) rfl m1 (by decide +kernel) m293 (by decide +kernel) ⟨by decide, by decide⟩ rfl rfl (Nat.le_of_ble_eq_true rfl) ⟨by decide, by decide⟩ [] [0, 1] rfl rfl (by decide) (by decide) (by decide) dH_mixRound_85 (fun _ _ => ?_)
  show J E 9 g [ob h 2 [.ref a1, .ref a2, .ref a3, .ref a4, .int (nI k), .int (nI z)], aI E a3 8 f] [(5, .int ((((f 0) &&& (f 1)) ^^^ ((f 0) &&& (f 2))) ^^^ ((f 1) &&& (f 2)))), (4, .int (((f 4) &&& (f 5)) ^^^ (((f 4) ^^^ (-1)) &&& (f 6)))), (3, .int (f 4)), (2, .int (f 0)), (0, .ref h), (1, .int x)] 0 0 88 [.int (tr (f 4) 11), .int (tr (f 4) 6), .int (f 7)]
  refine j_ixor hg (v := (tr (f 4) 6) ^^^ (tr (f 4) 11)) dH_mixRound_88 rfl ?_
  refine j_iload_n hg 2 dH_mixRound_89 rfl rfl ?_
  refine j_bipush hg (v := 25) dH_mixRound_90 (by decide) ?_
  refine j_callSN hg (n := 2) (y := yS_turnRight) (rm := rm_S_turnRight) (Ws := (cT yS_turnRight cS_turnRight 2 (some .int))) (As := [.int (f 4), .int 25]) (rest := [.int ((tr (f 4) 6) ^^^ (tr (f 4) 11)), .int (f 7)]) (wr := [ob h 2 [.ref a1, .ref a2, .ref a3, .ref a4, .int (nI k), .int (nI z)], aI E a3 8 f]) (host := RX3) (c_S_turnRight l E (f 4) 25) (gdT m294) rfl m1 (by decide +kernel) m293 (by decide +kernel) ⟨by decide, by decide⟩ rfl rfl (Nat.le_of_ble_eq_true rfl) ⟨by decide, by decide⟩ [] [0, 1] rfl rfl (by decide) (by decide) (by decide) dH_mixRound_92 (fun _ _ => ?_)
  show J E 9 g [ob h 2 [.ref a1, .ref a2, .ref a3, .ref a4, .int (nI k), .int (nI z)], aI E a3 8 f] [(5, .int ((((f 0) &&& (f 1)) ^^^ ((f 0) &&& (f 2))) ^^^ ((f 1) &&& (f 2)))), (4, .int (((f 4) &&& (f 5)) ^^^ (((f 4) ^^^ (-1)) &&& (f 6)))), (3, .int (f 4)), (2, .int (f 0)), (0, .ref h), (1, .int x)] 0 0 95 [.int (tr (f 4) 25), .int ((tr (f 4) 6) ^^^ (tr (f 4) 11)), .int (f 7)]
  refine j_ixor hg (v := ((tr (f 4) 6) ^^^ (tr (f 4) 11)) ^^^ (tr (f 4) 25)) dH_mixRound_95 rfl ?_
  refine j_iadd hg (v := (f 7) + (((tr (f 4) 6) ^^^ (tr (f 4) 11)) ^^^ (tr (f 4) 25))) dH_mixRound_96 rfl ?_
  refine j_iload hg 1 dH_mixRound_97 rfl ?_
  refine j_iadd hg (v := ((f 7) + (((tr (f 4) 6) ^^^ (tr (f 4) 11)) ^^^ (tr (f 4) 25))) + (((f 4) &&& (f 5)) ^^^ (((f 4) ^^^ (-1)) &&& (f 6)))) dH_mixRound_99 rfl ?_
  refine j_iload_n hg 5 dH_mixRound_100 rfl rfl ?_
  refine j_iadd hg (v := (((f 7) + (((tr (f 4) 6) ^^^ (tr (f 4) 11)) ^^^ (tr (f 4) 25))) + (((f 4) &&& (f 5)) ^^^ (((f 4) ^^^ (-1)) &&& (f 6)))) + x) dH_mixRound_101 rfl ?_
  refine j_topi (show ((((f 7) + (((tr (f 4) 6) ^^^ (tr (f 4) 11)) ^^^ (tr (f 4) 25))) + (((f 4) &&& (f 5)) ^^^ (((f 4) ^^^ (-1)) &&& (f 6)))) + x) = (lowF f x) from rfl) ?_
  refine j_istore hg (lv' := [(6, .int (lowF f x)), (5, .int ((((f 0) &&& (f 1)) ^^^ ((f 0) &&& (f 2))) ^^^ ((f 1) &&& (f 2)))), (4, .int (((f 4) &&& (f 5)) ^^^ (((f 4) ^^^ (-1)) &&& (f 6)))), (3, .int (f 4)), (2, .int (f 0)), (0, .ref h), (1, .int x)]) dH_mixRound_102 (by decide) rfl ?_
  refine j_iload_n hg 4 dH_mixRound_104 rfl rfl ?_
  refine j_iconst hg (v := 2) dH_mixRound_105 (by decide) ?_
  refine j_callSN hg (n := 2) (y := yS_turnRight) (rm := rm_S_turnRight) (Ws := (cT yS_turnRight cS_turnRight 2 (some .int))) (As := [.int (f 0), .int 2]) (rest := []) (wr := [ob h 2 [.ref a1, .ref a2, .ref a3, .ref a4, .int (nI k), .int (nI z)], aI E a3 8 f]) (host := RX3) (c_S_turnRight l E (f 0) 2) (gdT m294) rfl m1 (by decide +kernel) m293 (by decide +kernel) ⟨by decide, by decide⟩ rfl rfl (Nat.le_of_ble_eq_true rfl) ⟨by decide, by decide⟩ [] [0, 1] rfl rfl (by decide) (by decide) (by decide) dH_mixRound_106 (fun _ _ => ?_)
  show J E 9 g [ob h 2 [.ref a1, .ref a2, .ref a3, .ref a4, .int (nI k), .int (nI z)], aI E a3 8 f] [(6, .int (lowF f x)), (5, .int ((((f 0) &&& (f 1)) ^^^ ((f 0) &&& (f 2))) ^^^ ((f 1) &&& (f 2)))), (4, .int (((f 4) &&& (f 5)) ^^^ (((f 4) ^^^ (-1)) &&& (f 6)))), (3, .int (f 4)), (2, .int (f 0)), (0, .ref h), (1, .int x)] 0 0 109 [.int (tr (f 0) 2)]
  refine j_iload_n hg 4 dH_mixRound_109 rfl rfl ?_
  refine j_bipush hg (v := 13) dH_mixRound_110 (by decide) ?_
  refine j_callSN hg (n := 2) (y := yS_turnRight) (rm := rm_S_turnRight) (Ws := (cT yS_turnRight cS_turnRight 2 (some .int))) (As := [.int (f 0), .int 13]) (rest := [.int (tr (f 0) 2)]) (wr := [ob h 2 [.ref a1, .ref a2, .ref a3, .ref a4, .int (nI k), .int (nI z)], aI E a3 8 f]) (host := RX3) (c_S_turnRight l E (f 0) 13) (gdT m294) rfl m1 (by decide +kernel) m293 (by decide +kernel) ⟨by decide, by decide⟩ rfl rfl (Nat.le_of_ble_eq_true rfl) ⟨by decide, by decide⟩ [] [0, 1] rfl rfl (by decide) (by decide) (by decide) dH_mixRound_112 (fun _ _ => ?_)
  show J E 9 g [ob h 2 [.ref a1, .ref a2, .ref a3, .ref a4, .int (nI k), .int (nI z)], aI E a3 8 f] [(6, .int (lowF f x)), (5, .int ((((f 0) &&& (f 1)) ^^^ ((f 0) &&& (f 2))) ^^^ ((f 1) &&& (f 2)))), (4, .int (((f 4) &&& (f 5)) ^^^ (((f 4) ^^^ (-1)) &&& (f 6)))), (3, .int (f 4)), (2, .int (f 0)), (0, .ref h), (1, .int x)] 0 0 115 [.int (tr (f 0) 13), .int (tr (f 0) 2)]
  refine j_ixor hg (v := (tr (f 0) 2) ^^^ (tr (f 0) 13)) dH_mixRound_115 rfl ?_
  refine j_iload_n hg 4 dH_mixRound_116 rfl rfl ?_
  refine j_bipush hg (v := 22) dH_mixRound_117 (by decide) ?_
  refine j_callSN hg (n := 2) (y := yS_turnRight) (rm := rm_S_turnRight) (Ws := (cT yS_turnRight cS_turnRight 2 (some .int))) (As := [.int (f 0), .int 22]) (rest := [.int ((tr (f 0) 2) ^^^ (tr (f 0) 13))]) (wr := [ob h 2 [.ref a1, .ref a2, .ref a3, .ref a4, .int (nI k), .int (nI z)], aI E a3 8 f]) (host := RX3) (c_S_turnRight l E (f 0) 22) (gdT m294) rfl m1 (by decide +kernel) m293 (by decide +kernel) ⟨by decide, by decide⟩ rfl rfl (Nat.le_of_ble_eq_true rfl) ⟨by decide, by decide⟩ [] [0, 1] rfl rfl (by decide) (by decide) (by decide) dH_mixRound_119 (fun _ _ => ?_)
  show J E 9 g [ob h 2 [.ref a1, .ref a2, .ref a3, .ref a4, .int (nI k), .int (nI z)], aI E a3 8 f] [(6, .int (lowF f x)), (5, .int ((((f 0) &&& (f 1)) ^^^ ((f 0) &&& (f 2))) ^^^ ((f 1) &&& (f 2)))), (4, .int (((f 4) &&& (f 5)) ^^^ (((f 4) ^^^ (-1)) &&& (f 6)))), (3, .int (f 4)), (2, .int (f 0)), (0, .ref h), (1, .int x)] 0 0 122 [.int (tr (f 0) 22), .int ((tr (f 0) 2) ^^^ (tr (f 0) 13))]
  refine j_ixor hg (v := ((tr (f 0) 2) ^^^ (tr (f 0) 13)) ^^^ (tr (f 0) 22)) dH_mixRound_122 rfl ?_
  refine j_iload hg 1 dH_mixRound_123 rfl ?_
  refine j_iadd hg (v := (((tr (f 0) 2) ^^^ (tr (f 0) 13)) ^^^ (tr (f 0) 22)) + ((((f 0) &&& (f 1)) ^^^ ((f 0) &&& (f 2))) ^^^ ((f 1) &&& (f 2)))) dH_mixRound_125 rfl ?_
  refine j_topi (show ((((tr (f 0) 2) ^^^ (tr (f 0) 13)) ^^^ (tr (f 0) 22)) + ((((f 0) &&& (f 1)) ^^^ ((f 0) &&& (f 2))) ^^^ ((f 1) &&& (f 2)))) = (highF f) from rfl) ?_
  refine j_istore hg (lv' := [(7, .int (highF f)), (6, .int (lowF f x)), (5, .int ((((f 0) &&& (f 1)) ^^^ ((f 0) &&& (f 2))) ^^^ ((f 1) &&& (f 2)))), (4, .int (((f 4) &&& (f 5)) ^^^ (((f 4) ^^^ (-1)) &&& (f 6)))), (3, .int (f 4)), (2, .int (f 0)), (0, .ref h), (1, .int x)]) dH_mixRound_126 (by decide) rfl ?_
  refine j_bipush hg (v := 7) dH_mixRound_128 (by decide) ?_
  refine j_istore hg (lv' := [(8, .int 7), (7, .int (highF f)), (6, .int (lowF f x)), (5, .int ((((f 0) &&& (f 1)) ^^^ ((f 0) &&& (f 2))) ^^^ ((f 1) &&& (f 2)))), (4, .int (((f 4) &&& (f 5)) ^^^ (((f 4) ^^^ (-1)) &&& (f 6)))), (3, .int (f 4)), (2, .int (f 0)), (0, .ref h), (1, .int x)]) dH_mixRound_130 (by decide) rfl ?_
  refine j_pick [7, 8, 6, 5, 2, 1, 0] (lv' := [(0, .ref h), (1, .int x), (2, .int (f 0)), (3, .int (f 4)), (6, .int (lowF f x)), (7, .int (highF f)), (8, .int 7)]) rfl ?_
  have loop : ∀ (zk i : Nat), i + zk = 7 → J E 9 g [ob h 2 [.ref a1, .ref a2, .ref a3, .ref a4, .int (nI k), .int (nI z)], aI E a3 8 (shf f i)] [(0, .ref h), (1, .int x), (2, .int (f 0)), (3, .int (f 4)), (6, .int (lowF f x)), (7, .int (highF f)), (8, .int (nI (7 - i)))] 0 0 132 [] := by
    intro zk
    induction zk with
    | zero =>
      intro i  hi
      obtain rfl : 7 = i := by omega
      refine j_iload hg 6 dH_mixRound_132 rfl ?_
      refine j_zle_t hg (tgt := 159) (7 - 7) rfl (by omega) (by omega) dH_mixRound_134 (by decide) ?_
      refine j_aload_n hg 0 dH_mixRound_159 rfl rfl ?_
      refine j_get hg (C := RX2) (T := TX2) (N := 6) inX2 0 rfl rfl 2 (by decide) m66 rfl dH_mixRound_160 ?_
      refine j_iconst hg (v := 4) dH_mixRound_163 (by decide) ?_
      refine j_dup2_11 hg dH_mixRound_164 rfl rfl ?_
      refine j_iald hg (v := (shf f 7) 4) 1 4 rfl rfl (by omega) (by omega) rfl dH_mixRound_165 ?_
      refine j_iload hg 4 dH_mixRound_166 rfl ?_
      refine j_iadd hg (v := ((shf f 7) 4) + (lowF f x)) dH_mixRound_168 rfl ?_
      refine j_iast hg (ws' := [ob h 2 [.ref a1, .ref a2, .ref a3, .ref a4, .int (nI k), .int (nI z)], aI E a3 8 (upd (shf f 7) 4 (((shf f 7) 4) + (lowF f x)))]) 1 4 rfl rfl (by omega) (by omega) rfl dH_mixRound_169 ?_
      refine j_aload_n hg 0 dH_mixRound_170 rfl rfl ?_
      refine j_get hg (C := RX2) (T := TX2) (N := 6) inX2 0 rfl rfl 2 (by decide) m66 rfl dH_mixRound_171 ?_
      refine j_iconst hg (v := 0) dH_mixRound_174 (by decide) ?_
      refine j_iload hg 4 dH_mixRound_175 rfl ?_
      refine j_iload hg 5 dH_mixRound_177 rfl ?_
      refine j_iadd hg (v := (lowF f x) + (highF f)) dH_mixRound_179 rfl ?_
      refine j_iast hg (ws' := [ob h 2 [.ref a1, .ref a2, .ref a3, .ref a4, .int (nI k), .int (nI z)], aI E a3 8 (upd (upd (shf f 7) 4 (((shf f 7) 4) + (lowF f x))) 0 ((lowF f x) + (highF f)))]) 1 0 rfl rfl (by omega) (by omega) rfl dH_mixRound_180 ?_
      exact j_vret hg hR () trivial rfl [0, 1] rfl (by decide) (by decide) (by decide) dH_mixRound_181
    | succ zk ih =>
      intro i  hi
      refine j_iload hg 6 dH_mixRound_132 rfl ?_
      refine j_zle_f hg (tgt := 159) (7 - i) rfl (by omega) (by omega) dH_mixRound_134 (by decide) ?_
      refine j_aload_n hg 0 dH_mixRound_137 rfl rfl ?_
      refine j_get hg (C := RX2) (T := TX2) (N := 6) inX2 0 rfl rfl 2 (by decide) m66 rfl dH_mixRound_138 ?_
      refine j_iload hg 6 dH_mixRound_141 rfl ?_
      refine j_aload_n hg 0 dH_mixRound_143 rfl rfl ?_
      refine j_get hg (C := RX2) (T := TX2) (N := 6) inX2 0 rfl rfl 2 (by decide) m66 rfl dH_mixRound_144 ?_
      refine j_iload hg 6 dH_mixRound_147 rfl ?_
      refine j_iconst hg (v := 1) dH_mixRound_149 (by decide) ?_
      refine j_isub hg (v := nI ((7 - i) - 1)) dH_mixRound_150 (pk_sub (a := 7 - i) (b := 1) (by omega)) ?_
      refine j_iald hg (v := (shf f i) ((7 - i) - 1)) 1 ((7 - i) - 1) rfl rfl (by omega) (by omega) rfl dH_mixRound_151 ?_
      refine j_iast hg (ws' := [ob h 2 [.ref a1, .ref a2, .ref a3, .ref a4, .int (nI k), .int (nI z)], aI E a3 8 (upd (shf f i) (7 - i) ((shf f i) ((7 - i) - 1)))]) 1 (7 - i) rfl rfl (by omega) (by omega) rfl dH_mixRound_152 ?_
      refine j_iinc hg (kq := 6) (v := nI (7 - (i + 1))) (lv' := [(8, .int (nI (7 - (i + 1)))), (0, .ref h), (1, .int x), (2, .int (f 0)), (3, .int (f 4)), (6, .int (lowF f x)), (7, .int (highF f))]) dH_mixRound_153 rfl (Eq.trans (nI_dec (7 - i) 1 (by omega)) (congrArg nI (by omega))) (by decide) rfl ?_
      refine j_goto hg (tgt := 132) dH_mixRound_156 (by decide) ?_
      refine j_pick [1, 2, 3, 4, 5, 6, 0] (lv' := [(0, .ref h), (1, .int x), (2, .int (f 0)), (3, .int (f 4)), (6, .int (lowF f x)), (7, .int (highF f)), (8, .int (nI (7 - (i + 1))))]) rfl ?_
      exact ih (i + 1) (by omega)
  exact loop (7) 0 (by omega)

def rm_H_mixBlock : Room := { frames := 2, cells := 0, slots := 0, locals := 49 }
set_option maxHeartbeats 1000000 in
set_option maxRecDepth 100000 in
theorem c_H_mixBlock (l : Launch) (E : Ev) (h a1 a2 a3 a4 k z : Nat) (st sc ro : Nat → Int32) : MC E l yH_mixBlock (cT yH_mixBlock cH_mixBlock 2 none) rm_H_mixBlock [.ref h] [ob h 2 [.ref a1, .ref a2, .ref a3, .ref a4, .int (nI k), .int (nI z)], aI E a1 8 st, aI E a2 64 sc, aI E a3 8 ro] Unit (fun _ => True) (fun _ => none) (fun _ => [ob h 2 [.ref a1, .ref a2, .ref a3, .ref a4, .int (nI k), .int (nI z)], aI E a1 8 (addS st (roF st sc ro) 8), aI E a2 64 sc, aI E a3 8 (roF st sc ro)]) := by
  refine MC.of (cc := cH_mixBlock) (nL := 2) (ret := none) (by decide) rfl cT_in (Nat.le_of_ble_eq_true rfl) (fun g hg hR => ?_)
  show J E 2 g [ob h 2 [.ref a1, .ref a2, .ref a3, .ref a4, .int (nI k), .int (nI z)], aI E a1 8 st, aI E a2 64 sc, aI E a3 8 ro] [(0, .ref h)] 0 0 0 []
  refine j_aload_n hg 0 dH_mixBlock_0 rfl rfl ?_
  refine j_get hg (C := RX2) (T := TX2) (N := 6) inX2 0 rfl rfl 0 (by decide) m64 rfl dH_mixBlock_1 ?_
  refine j_iconst hg (v := 0) dH_mixBlock_4 (by decide) ?_
  refine j_aload_n hg 0 dH_mixBlock_5 rfl rfl ?_
  refine j_get hg (C := RX2) (T := TX2) (N := 6) inX2 0 rfl rfl 2 (by decide) m66 rfl dH_mixBlock_6 ?_
  refine j_iconst hg (v := 0) dH_mixBlock_9 (by decide) ?_
  refine j_bipush hg (v := 8) dH_mixBlock_10 (by decide) ?_
  refine j_copyI hg (ws' := [ob h 2 [.ref a1, .ref a2, .ref a3, .ref a4, .int (nI k), .int (nI z)], aI E a1 8 st, aI E a2 64 sc, aI E a3 8 (va_cpy st ro 0 0 8)]) 1 3 0 0 8 ⟨m276, m141, m140, m6⟩ rfl rfl rfl rfl rfl (by omega) (by omega) (by omega) (by omega) (Nat.le_of_ble_eq_true rfl) (Nat.le_of_ble_eq_true rfl) rfl dH_mixBlock_12 ?_
  refine j_iconst hg (v := 0) dH_mixBlock_15 (by decide) ?_
  refine j_istore_n hg (lv' := [(1, .int 0), (0, .ref h)]) dH_mixBlock_16 rfl (by decide) rfl ?_
  refine j_pick [1, 0] (lv' := [(0, .ref h), (1, .int 0)]) rfl ?_
  have loop : ∀ (zk i : Nat), i + zk = 64 → J E 2 g [ob h 2 [.ref a1, .ref a2, .ref a3, .ref a4, .int (nI k), .int (nI z)], aI E a1 8 st, aI E a2 64 sc, aI E a3 8 (mrs (va_cpy st ro 0 0 8) sc i)] [(0, .ref h), (1, .int (nI i))] 0 0 17 [] := by
    intro zk
    induction zk with
    | zero =>
      intro i  hi
      obtain rfl : 64 = i := by omega
      refine j_iload_n hg 1 dH_mixBlock_17 rfl rfl ?_
      refine j_bipush hg (v := 64) dH_mixBlock_18 (by decide) ?_
      refine j_nge_t hg (tgt := 45) 64 64 rfl rfl (by omega) (by omega) (by omega) dH_mixBlock_20 (by decide) ?_
      refine j_iconst hg (v := 0) dH_mixBlock_45 (by decide) ?_
      refine j_istore_n hg (lv' := [(1, .int 0), (0, .ref h)]) dH_mixBlock_46 rfl (by decide) rfl ?_
      refine j_pick [1, 0] (lv' := [(0, .ref h), (1, .int 0)]) rfl ?_
      have loop2 : ∀ (zk i : Nat), i + zk = 8 → J E 2 g [ob h 2 [.ref a1, .ref a2, .ref a3, .ref a4, .int (nI k), .int (nI z)], aI E a1 8 (addS st (roF st sc ro) i), aI E a2 64 sc, aI E a3 8 (roF st sc ro)] [(0, .ref h), (1, .int (nI i))] 0 0 47 [] := by
        intro zk
        induction zk with
        | zero =>
          intro i  hi
          obtain rfl : 8 = i := by omega
          refine j_iload_n hg 1 dH_mixBlock_47 rfl rfl ?_
          refine j_bipush hg (v := 8) dH_mixBlock_48 (by decide) ?_
          refine j_nge_t hg (tgt := 74) 8 8 rfl rfl (by omega) (by omega) (by omega) dH_mixBlock_50 (by decide) ?_
          exact j_vret hg hR () trivial rfl [0, 1, 2, 3] rfl (by decide) (by decide) (by decide) dH_mixBlock_74
        | succ zk ih =>
          intro i  hi
          refine j_iload_n hg 1 dH_mixBlock_47 rfl rfl ?_
          refine j_bipush hg (v := 8) dH_mixBlock_48 (by decide) ?_
          refine j_nge_f hg (tgt := 74) i 8 rfl rfl (by omega) (by omega) (by omega) dH_mixBlock_50 (by decide) ?_
          refine j_aload_n hg 0 dH_mixBlock_53 rfl rfl ?_
          refine j_get hg (C := RX2) (T := TX2) (N := 6) inX2 0 rfl rfl 0 (by decide) m64 rfl dH_mixBlock_54 ?_
          refine j_iload_n hg 1 dH_mixBlock_57 rfl rfl ?_
          refine j_dup2_11 hg dH_mixBlock_58 rfl rfl ?_
          refine j_iald hg (v := (addS st (roF st sc ro) i) i) 1 i rfl rfl (by omega) (by omega) rfl dH_mixBlock_59 ?_
          refine j_aload_n hg 0 dH_mixBlock_60 rfl rfl ?_
          refine j_get hg (C := RX2) (T := TX2) (N := 6) inX2 0 rfl rfl 2 (by decide) m66 rfl dH_mixBlock_61 ?_
          refine j_iload_n hg 1 dH_mixBlock_64 rfl rfl ?_
          refine j_iald hg (v := (roF st sc ro) i) 3 i rfl rfl (by omega) (by omega) rfl dH_mixBlock_65 ?_
          refine j_iadd hg (v := ((addS st (roF st sc ro) i) i) + ((roF st sc ro) i)) dH_mixBlock_66 rfl ?_
          refine j_iast hg (ws' := [ob h 2 [.ref a1, .ref a2, .ref a3, .ref a4, .int (nI k), .int (nI z)], aI E a1 8 (upd (addS st (roF st sc ro) i) i (((addS st (roF st sc ro) i) i) + ((roF st sc ro) i))), aI E a2 64 sc, aI E a3 8 (roF st sc ro)]) 1 i rfl rfl (by omega) (by omega) rfl dH_mixBlock_67 ?_
          refine j_iinc hg (kq := 1) (v := nI (i + 1)) (lv' := [(1, .int (nI (i + 1))), (0, .ref h)]) dH_mixBlock_68 rfl (nI_add i 1) (by decide) rfl ?_
          refine j_goto hg (tgt := 47) dH_mixBlock_71 (by decide) ?_
          refine j_pick [1, 0] (lv' := [(0, .ref h), (1, .int (nI (i + 1)))]) rfl ?_
          exact ih (i + 1) (by omega)
      exact loop2 (8) 0 (by omega)
    | succ zk ih =>
      intro i  hi
      refine j_iload_n hg 1 dH_mixBlock_17 rfl rfl ?_
      refine j_bipush hg (v := 64) dH_mixBlock_18 (by decide) ?_
      refine j_nge_f hg (tgt := 45) i 64 rfl rfl (by omega) (by omega) (by omega) dH_mixBlock_20 (by decide) ?_
      refine j_aload_n hg 0 dH_mixBlock_23 rfl rfl ?_
      refine j_aload_n hg 0 dH_mixBlock_24 rfl rfl ?_
      refine j_get hg (C := RX2) (T := TX2) (N := 6) inX2 0 rfl rfl 1 (by decide) m65 rfl dH_mixBlock_25 ?_
      refine j_iload_n hg 1 dH_mixBlock_28 rfl rfl ?_
      refine j_iald hg (v := sc i) 2 i rfl rfl (by omega) (by omega) rfl dH_mixBlock_29 ?_
      refine j_gets hg 1 rfl m299 dH_mixBlock_30 ?_
      refine j_iload_n hg 1 dH_mixBlock_33 rfl rfl ?_
      refine j_sti hg (f := tADDED) (v := tADDED i) 1 i rfl rfl (by omega) (by decide) rfl dH_mixBlock_34 ?_
      refine j_iadd hg (v := (sc i) + (tADDED i)) dH_mixBlock_35 rfl ?_
      refine j_callV hg (n := 1) (y := yH_mixRound) (rm := rm_H_mixRound) (Ws := (cT yH_mixRound cH_mixRound 9 none)) (As := [.int ((sc i) + (tADDED i))]) (rest := []) (wr := [aI E a1 8 st, aI E a2 64 sc]) 0 rfl rfl (c_H_mixRound l E h a1 a2 a3 a4 k z (mrs (va_cpy st ro 0 0 8) sc i) ((sc i) + (tADDED i))) (gdV m301 m303 ms17 m4 m304) rfl (by decide +kernel) ⟨by decide, by decide⟩ rfl rfl (Nat.le_of_ble_eq_true rfl) ⟨by decide, by decide⟩ [0, 3] [1, 2] rfl rfl (by decide) (by decide) (by decide) dH_mixBlock_36 (fun _ _ => ?_)
      show J E 2 g [aI E a1 8 st, aI E a2 64 sc, ob h 2 [.ref a1, .ref a2, .ref a3, .ref a4, .int (nI k), .int (nI z)], aI E a3 8 (mr (mrs (va_cpy st ro 0 0 8) sc i) ((sc i) + (tADDED i)))] [(0, .ref h), (1, .int (nI i))] 0 0 39 []
      refine j_iinc hg (kq := 1) (v := nI (i + 1)) (lv' := [(1, .int (nI (i + 1))), (0, .ref h)]) dH_mixBlock_39 rfl (nI_add i 1) (by decide) rfl ?_
      refine j_goto hg (tgt := 17) dH_mixBlock_42 (by decide) ?_
      refine j_sub [2, 0, 1, 3] (ws' := [ob h 2 [.ref a1, .ref a2, .ref a3, .ref a4, .int (nI k), .int (nI z)], aI E a1 8 st, aI E a2 64 sc, aI E a3 8 (mr (mrs (va_cpy st ro 0 0 8) sc i) ((sc i) + (tADDED i)))]) rfl (by decide) ?_
      refine j_pick [1, 0] (lv' := [(0, .ref h), (1, .int (nI (i + 1)))]) rfl ?_
      exact ih (i + 1) (by omega)
  exact loop (64) 0 (by omega)

def rm_H_addByte : Room := { frames := 3, cells := 0, slots := 0, locals := 70 }
set_option maxHeartbeats 1000000 in
set_option maxRecDepth 100000 in
theorem c_H_addByte (l : Launch) (E : Ev) (h a1 a2 a3 a4 : Nat) (u : HS) (v : Int32) (hv : vp_nar .byte v = v) (hk : u.2.2.2.2.1 < 64) : MC E l yH_addByte (cT yH_addByte cH_addByte 2 none) rm_H_addByte [.ref h, .int v] [ob h 2 [.ref a1, .ref a2, .ref a3, .ref a4, .int (nI u.2.2.2.2.1), .int (nI u.2.2.2.2.2)], aI E a1 8 u.1, aI E a2 64 u.2.1, aI E a3 8 u.2.2.1, aB E a4 64 u.2.2.2.1] Unit (fun _ => True) (fun _ => none) (fun _ => [ob h 2 [.ref a1, .ref a2, .ref a3, .ref a4, .int (nI ((abF u v).2.2.2.2.1)), .int (nI ((abF u v).2.2.2.2.2))], aI E a1 8 ((abF u v).1), aI E a2 64 ((abF u v).2.1), aI E a3 8 ((abF u v).2.2.1), aB E a4 64 ((abF u v).2.2.2.1)]) := by
  refine MC.of (cc := cH_addByte) (nL := 2) (ret := none) (by decide) rfl cT_in (Nat.le_of_ble_eq_true rfl) (fun g hg hR => ?_)
  show J E 2 g [ob h 2 [.ref a1, .ref a2, .ref a3, .ref a4, .int (nI u.2.2.2.2.1), .int (nI u.2.2.2.2.2)], aI E a1 8 u.1, aI E a2 64 u.2.1, aI E a3 8 u.2.2.1, aB E a4 64 u.2.2.2.1] [(0, .ref h), (1, .int v)] 0 0 0 []
  refine j_aload_n hg 0 dH_addByte_0 rfl rfl ?_
  refine j_get hg (C := RX2) (T := TX2) (N := 6) inX2 0 rfl rfl 3 (by decide) m67 rfl dH_addByte_1 ?_
  refine j_aload_n hg 0 dH_addByte_4 rfl rfl ?_
  refine j_get hg (C := RX2) (T := TX2) (N := 6) inX2 0 rfl rfl 4 (by decide) m68 rfl dH_addByte_5 ?_
  refine j_iload_n hg 1 dH_addByte_8 rfl rfl ?_
  refine j_bast hg (ws' := [ob h 2 [.ref a1, .ref a2, .ref a3, .ref a4, .int (nI u.2.2.2.2.1), .int (nI u.2.2.2.2.2)], aI E a1 8 u.1, aI E a2 64 u.2.1, aI E a3 8 u.2.2.1, aB E a4 64 (upd u.2.2.2.1 u.2.2.2.2.1 v)]) 4 u.2.2.2.2.1 rfl rfl (by omega) (by omega) hv rfl dH_addByte_9 ?_
  refine j_aload_n hg 0 dH_addByte_10 rfl rfl ?_
  refine j_dup hg dH_addByte_11 rfl ?_
  refine j_get hg (C := RX2) (T := TX2) (N := 6) inX2 0 rfl rfl 4 (by decide) m68 rfl dH_addByte_12 ?_
  refine j_iconst hg (v := 1) dH_addByte_15 (by decide) ?_
  refine j_iadd hg (v := nI (u.2.2.2.2.1 + 1)) dH_addByte_16 (nI_add u.2.2.2.2.1 1) ?_
  refine j_put hg (C := RX2) (T := TX2) (N := 6) (ty := .int) (ws' := [ob h 2 [.ref a1, .ref a2, .ref a3, .ref a4, .int (nI (u.2.2.2.2.1 + 1)), .int (nI u.2.2.2.2.2)], aI E a1 8 u.1, aI E a2 64 u.2.1, aI E a3 8 u.2.2.1, aB E a4 64 (upd u.2.2.2.1 u.2.2.2.2.1 v)]) inX2 tyX2 tyX2_ok nmX2 0 rfl rfl 4 (by decide) m68 rfl (by decide +kernel) rfl rfl (Nat.le_of_ble_eq_true rfl) rfl dH_addByte_17 ?_
  refine j_aload_n hg 0 dH_addByte_20 rfl rfl ?_
  refine j_dup hg dH_addByte_21 rfl ?_
  refine j_get hg (C := RX2) (T := TX2) (N := 6) inX2 0 rfl rfl 5 (by decide) m69 rfl dH_addByte_22 ?_
  refine j_iconst hg (v := 1) dH_addByte_25 (by decide) ?_
  refine j_iadd hg (v := nI (u.2.2.2.2.2 + 1)) dH_addByte_26 (nI_add u.2.2.2.2.2 1) ?_
  refine j_put hg (C := RX2) (T := TX2) (N := 6) (ty := .int) (ws' := [ob h 2 [.ref a1, .ref a2, .ref a3, .ref a4, .int (nI (u.2.2.2.2.1 + 1)), .int (nI (u.2.2.2.2.2 + 1))], aI E a1 8 u.1, aI E a2 64 u.2.1, aI E a3 8 u.2.2.1, aB E a4 64 (upd u.2.2.2.1 u.2.2.2.2.1 v)]) inX2 tyX2 tyX2_ok nmX2 0 rfl rfl 5 (by decide) m69 rfl (by decide +kernel) rfl rfl (Nat.le_of_ble_eq_true rfl) rfl dH_addByte_27 ?_
  refine j_aload_n hg 0 dH_addByte_30 rfl rfl ?_
  refine j_get hg (C := RX2) (T := TX2) (N := 6) inX2 0 rfl rfl 4 (by decide) m68 rfl dH_addByte_31 ?_
  refine j_bipush hg (v := 64) dH_addByte_34 (by decide) ?_
  refine j_nne hg (tgt := 52) (u.2.2.2.2.1 + 1) 64 rfl rfl (by omega) (by omega) dH_addByte_36 (by decide) (fun hc => ?_) (fun hc => ?_)
  · skip
    have e : abF u v = (u.1, u.2.1, u.2.2.1, upd u.2.2.2.1 u.2.2.2.2.1 v, u.2.2.2.2.1 + 1, u.2.2.2.2.2 + 1) := (abF_eq u v).trans (if_neg (by omega))
    rw [e] at hR
    exact j_vret hg hR () trivial rfl [0, 1, 2, 3, 4] rfl (by decide) (by decide) (by decide) dH_addByte_52
  · skip
    have e : abF u v = (addS u.1 (roF u.1 (spF (upd u.2.2.2.1 u.2.2.2.2.1 v) u.2.1) u.2.2.1) 8, spF (upd u.2.2.2.1 u.2.2.2.2.1 v) u.2.1, roF u.1 (spF (upd u.2.2.2.1 u.2.2.2.2.1 v) u.2.1) u.2.2.1, upd u.2.2.2.1 u.2.2.2.2.1 v, 0, u.2.2.2.2.2 + 1) := (abF_eq u v).trans (if_pos (by omega))
    rw [e] at hR
    refine j_aload_n hg 0 dH_addByte_39 rfl rfl ?_
    refine j_iconst hg (v := 0) dH_addByte_40 (by decide) ?_
    refine j_put hg (C := RX2) (T := TX2) (N := 6) (ty := .int) (ws' := [ob h 2 [.ref a1, .ref a2, .ref a3, .ref a4, .int 0, .int (nI (u.2.2.2.2.2 + 1))], aI E a1 8 u.1, aI E a2 64 u.2.1, aI E a3 8 u.2.2.1, aB E a4 64 (upd u.2.2.2.1 u.2.2.2.2.1 v)]) inX2 tyX2 tyX2_ok nmX2 0 rfl rfl 4 (by decide) m68 rfl (by decide +kernel) rfl rfl (Nat.le_of_ble_eq_true rfl) rfl dH_addByte_41 ?_
    refine j_aload_n hg 0 dH_addByte_44 rfl rfl ?_
    refine j_callV hg (n := 0) (y := yH_spreadBlock) (rm := rm_H_spreadBlock) (Ws := (cT yH_spreadBlock cH_spreadBlock 6 none)) (As := []) (rest := []) (wr := [aI E a1 8 u.1, aI E a3 8 u.2.2.1]) 0 rfl rfl (c_H_spreadBlock l E h a1 a2 a3 a4 0 (u.2.2.2.2.2 + 1) (upd u.2.2.2.1 u.2.2.2.2.1 v) u.2.1) (gdV m285 m287 ms15 m4 m288) rfl (by decide +kernel) ⟨by decide, by decide⟩ rfl rfl (Nat.le_of_ble_eq_true rfl) ⟨by decide, by decide⟩ [0, 2, 4] [1, 3] rfl rfl (by decide) (by decide) (by decide) dH_addByte_45 (fun _ _ => ?_)
    show J E 2 g [aI E a1 8 u.1, aI E a3 8 u.2.2.1, ob h 2 [.ref a1, .ref a2, .ref a3, .ref a4, .int 0, .int (nI (u.2.2.2.2.2 + 1))], aI E a2 64 (spF (upd u.2.2.2.1 u.2.2.2.2.1 v) u.2.1), aB E a4 64 (upd u.2.2.2.1 u.2.2.2.2.1 v)] [(0, .ref h), (1, .int v)] 0 0 48 []
    refine j_aload_n hg 0 dH_addByte_48 rfl rfl ?_
    refine j_callV hg (n := 0) (y := yH_mixBlock) (rm := rm_H_mixBlock) (Ws := (cT yH_mixBlock cH_mixBlock 2 none)) (As := []) (rest := []) (wr := [aB E a4 64 (upd u.2.2.2.1 u.2.2.2.2.1 v)]) 0 rfl rfl (c_H_mixBlock l E h a1 a2 a3 a4 0 (u.2.2.2.2.2 + 1) u.1 (spF (upd u.2.2.2.1 u.2.2.2.2.1 v) u.2.1) u.2.2.1) (gdV m295 m297 ms16 m4 m298) rfl (by decide +kernel) ⟨by decide, by decide⟩ rfl rfl (Nat.le_of_ble_eq_true rfl) ⟨by decide, by decide⟩ [2, 0, 3, 1] [4] rfl rfl (by decide) (by decide) (by decide) dH_addByte_49 (fun _ _ => ?_)
    show J E 2 g [aB E a4 64 (upd u.2.2.2.1 u.2.2.2.2.1 v), ob h 2 [.ref a1, .ref a2, .ref a3, .ref a4, .int 0, .int (nI (u.2.2.2.2.2 + 1))], aI E a1 8 (addS u.1 (roF u.1 (spF (upd u.2.2.2.1 u.2.2.2.2.1 v) u.2.1) u.2.2.1) 8), aI E a2 64 (spF (upd u.2.2.2.1 u.2.2.2.2.1 v) u.2.1), aI E a3 8 (roF u.1 (spF (upd u.2.2.2.1 u.2.2.2.2.1 v) u.2.1) u.2.2.1)] [(0, .ref h), (1, .int v)] 0 0 52 []
    exact j_vret hg hR () trivial rfl [1, 2, 3, 4, 0] rfl (by decide) (by decide) (by decide) dH_addByte_52
