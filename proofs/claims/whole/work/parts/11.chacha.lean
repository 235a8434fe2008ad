def rm_C_mixQuarter : Room := { frames := 1, cells := 0, slots := 0, locals := 21 }
set_option maxHeartbeats 1000000 in
set_option maxRecDepth 100000 in
theorem c_C_mixQuarter (l : Launch) (E : Ev) (h p q : Nat) (f : Nat → Int32) (a b c d : Nat) (ha : a < 16) (hb : b < 16) (hc : c < 16) (hd : d < 16) : MC E l yC_mixQuarter (cT yC_mixQuarter cC_mixQuarter 5 none) rm_C_mixQuarter [.ref h, .int (nI a), .int (nI b), .int (nI c), .int (nI d)] [ob h 0 [.ref p, .ref q], aI E q 16 f] Unit (fun _ => True) (fun _ => none) (fun _ => [ob h 0 [.ref p, .ref q], aI E q 16 (qr f a b c d)]) := by
  refine MC.of (cc := cC_mixQuarter) (nL := 5) (ret := none) (by decide) rfl cT_in (Nat.le_of_ble_eq_true rfl) (fun g hg hR => ?_)
  show J E 5 g [ob h 0 [.ref p, .ref q], aI E q 16 f] [(0, .ref h), (1, .int (nI a)), (2, .int (nI b)), (3, .int (nI c)), (4, .int (nI d))] 0 0 0 []
  refine j_aload_n hg 0 dC_mixQuarter_0 rfl rfl ?_
  refine j_get hg (C := RX0) (T := TX0) (N := 2) inX0 0 rfl rfl 1 (by decide) m24 rfl dC_mixQuarter_1 ?_
  refine j_iload_n hg 1 dC_mixQuarter_4 rfl rfl ?_
  refine j_dup2_11 hg dC_mixQuarter_5 rfl rfl ?_
  refine j_iald hg (v := f a) 1 a rfl rfl (by omega) (by omega) rfl dC_mixQuarter_6 ?_
  refine j_aload_n hg 0 dC_mixQuarter_7 rfl rfl ?_
  refine j_get hg (C := RX0) (T := TX0) (N := 2) inX0 0 rfl rfl 1 (by decide) m24 rfl dC_mixQuarter_8 ?_
  refine j_iload_n hg 2 dC_mixQuarter_11 rfl rfl ?_
  refine j_iald hg (v := f b) 1 b rfl rfl (by omega) (by omega) rfl dC_mixQuarter_12 ?_
  refine j_iadd hg (v := (f a) + (f b)) dC_mixQuarter_13 rfl ?_
  refine j_iast hg (ws' := [ob h 0 [.ref p, .ref q], aI E q 16 (qa f a b)]) 1 a rfl rfl (by omega) (by omega) rfl dC_mixQuarter_14 ?_
  refine j_aload_n hg 0 dC_mixQuarter_15 rfl rfl ?_
  refine j_get hg (C := RX0) (T := TX0) (N := 2) inX0 0 rfl rfl 1 (by decide) m24 rfl dC_mixQuarter_16 ?_
  refine j_iload hg 4 dC_mixQuarter_19 rfl ?_
  refine j_aload_n hg 0 dC_mixQuarter_21 rfl rfl ?_
  refine j_get hg (C := RX0) (T := TX0) (N := 2) inX0 0 rfl rfl 1 (by decide) m24 rfl dC_mixQuarter_22 ?_
  refine j_iload hg 4 dC_mixQuarter_25 rfl ?_
  refine j_iald hg (v := (qa f a b) d) 1 d rfl rfl (by omega) (by omega) rfl dC_mixQuarter_27 ?_
  refine j_aload_n hg 0 dC_mixQuarter_28 rfl rfl ?_
  refine j_get hg (C := RX0) (T := TX0) (N := 2) inX0 0 rfl rfl 1 (by decide) m24 rfl dC_mixQuarter_29 ?_
  refine j_iload_n hg 1 dC_mixQuarter_32 rfl rfl ?_
  refine j_iald hg (v := (qa f a b) a) 1 a rfl rfl (by omega) (by omega) rfl dC_mixQuarter_33 ?_
  refine j_ixor hg (v := ((qa f a b) d) ^^^ ((qa f a b) a)) dC_mixQuarter_34 rfl ?_
  refine j_bipush hg (v := 16) dC_mixQuarter_35 (by decide) ?_
  refine j_callSN hg (n := 2) (y := yS_turnLeft) (rm := rm_S_turnLeft) (Ws := (cT yS_turnLeft cS_turnLeft 2 (some .int))) (As := [.int (((qa f a b) d) ^^^ ((qa f a b) a)), .int 16]) (rest := [.int (nI d), .ref q]) (wr := [ob h 0 [.ref p, .ref q], aI E q 16 (qa f a b)]) (host := RX3) (c_S_turnLeft l E (((qa f a b) d) ^^^ ((qa f a b) a)) 16) (gdT m180) rfl m1 (by decide +kernel) m179 (by decide +kernel) ⟨by decide, by decide⟩ rfl rfl (Nat.le_of_ble_eq_true rfl) ⟨by decide, by decide⟩ [] [0, 1] rfl rfl (by decide) (by decide) (by decide) dC_mixQuarter_37 (fun _ _ => ?_)
  show J E 5 g [ob h 0 [.ref p, .ref q], aI E q 16 (qa f a b)] [(0, .ref h), (1, .int (nI a)), (2, .int (nI b)), (3, .int (nI c)), (4, .int (nI d))] 0 0 40 [.int (tl (((qa f a b) d) ^^^ ((qa f a b) a)) 16), .int (nI d), .ref q]
  refine j_iast hg (ws' := [ob h 0 [.ref p, .ref q], aI E q 16 (qx (qa f a b) d a 16)]) 1 d rfl rfl (by omega) (by omega) rfl dC_mixQuarter_40 ?_
  refine j_aload_n hg 0 dC_mixQuarter_41 rfl rfl ?_
  refine j_get hg (C := RX0) (T := TX0) (N := 2) inX0 0 rfl rfl 1 (by decide) m24 rfl dC_mixQuarter_42 ?_
  refine j_iload_n hg 3 dC_mixQuarter_45 rfl rfl ?_
  refine j_dup2_11 hg dC_mixQuarter_46 rfl rfl ?_
  refine j_iald hg (v := (qx (qa f a b) d a 16) c) 1 c rfl rfl (by omega) (by omega) rfl dC_mixQuarter_47 ?_
  refine j_aload_n hg 0 dC_mixQuarter_48 rfl rfl ?_
  refine j_get hg (C := RX0) (T := TX0) (N := 2) inX0 0 rfl rfl 1 (by decide) m24 rfl dC_mixQuarter_49 ?_
  refine j_iload hg 4 dC_mixQuarter_52 rfl ?_
  refine j_iald hg (v := (qx (qa f a b) d a 16) d) 1 d rfl rfl (by omega) (by omega) rfl dC_mixQuarter_54 ?_
  refine j_iadd hg (v := ((qx (qa f a b) d a 16) c) + ((qx (qa f a b) d a 16) d)) dC_mixQuarter_55 rfl ?_
  refine j_iast hg (ws' := [ob h 0 [.ref p, .ref q], aI E q 16 (qa (qx (qa f a b) d a 16) c d)]) 1 c rfl rfl (by omega) (by omega) rfl dC_mixQuarter_56 ?_
  refine j_aload_n hg 0 dC_mixQuarter_57 rfl rfl ?_
  refine j_get hg (C := RX0) (T := TX0) (N := 2) inX0 0 rfl rfl 1 (by decide) m24 rfl dC_mixQuarter_58 ?_
  refine j_iload_n hg 2 dC_mixQuarter_61 rfl rfl ?_
  refine j_aload_n hg 0 dC_mixQuarter_62 rfl rfl ?_
  refine j_get hg (C := RX0) (T := TX0) (N := 2) inX0 0 rfl rfl 1 (by decide) m24 rfl dC_mixQuarter_63 ?_
  refine j_iload_n hg 2 dC_mixQuarter_66 rfl rfl ?_
  refine j_iald hg (v := (qa (qx (qa f a b) d a 16) c d) b) 1 b rfl rfl (by omega) (by omega) rfl dC_mixQuarter_67 ?_
  refine j_aload_n hg 0 dC_mixQuarter_68 rfl rfl ?_
  refine j_get hg (C := RX0) (T := TX0) (N := 2) inX0 0 rfl rfl 1 (by decide) m24 rfl dC_mixQuarter_69 ?_
  refine j_iload_n hg 3 dC_mixQuarter_72 rfl rfl ?_
  refine j_iald hg (v := (qa (qx (qa f a b) d a 16) c d) c) 1 c rfl rfl (by omega) (by omega) rfl dC_mixQuarter_73 ?_
  refine j_ixor hg (v := ((qa (qx (qa f a b) d a 16) c d) b) ^^^ ((qa (qx (qa f a b) d a 16) c d) c)) dC_mixQuarter_74 rfl ?_
  refine j_bipush hg (v := 12) dC_mixQuarter_75 (by decide) ?_
  refine j_callSN hg (n := 2) (y := yS_turnLeft) (rm := rm_S_turnLeft) (Ws := (cT yS_turnLeft cS_turnLeft 2 (some .int))) (As := [.int (((qa (qx (qa f a b) d a 16) c d) b) ^^^ ((qa (qx (qa f a b) d a 16) c d) c)), .int 12]) (rest := [.int (nI b), .ref q]) (wr := [ob h 0 [.ref p, .ref q], aI E q 16 (qa (qx (qa f a b) d a 16) c d)]) (host := RX3) (c_S_turnLeft l E (((qa (qx (qa f a b) d a 16) c d) b) ^^^ ((qa (qx (qa f a b) d a 16) c d) c)) 12) (gdT m180) rfl m1 (by decide +kernel) m179 (by decide +kernel) ⟨by decide, by decide⟩ rfl rfl (Nat.le_of_ble_eq_true rfl) ⟨by decide, by decide⟩ [] [0, 1] rfl rfl (by decide) (by decide) (by decide) dC_mixQuarter_77 (fun _ _ => ?_)
  show J E 5 g [ob h 0 [.ref p, .ref q], aI E q 16 (qa (qx (qa f a b) d a 16) c d)] [(0, .ref h), (1, .int (nI a)), (2, .int (nI b)), (3, .int (nI c)), (4, .int (nI d))] 0 0 80 [.int (tl (((qa (qx (qa f a b) d a 16) c d) b) ^^^ ((qa (qx (qa f a b) d a 16) c d) c)) 12), .int (nI b), .ref q]
  refine j_iast hg (ws' := [ob h 0 [.ref p, .ref q], aI E q 16 (qx (qa (qx (qa f a b) d a 16) c d) b c 12)]) 1 b rfl rfl (by omega) (by omega) rfl dC_mixQuarter_80 ?_
  refine j_aload_n hg 0 dC_mixQuarter_81 rfl rfl ?_
  refine j_get hg (C := RX0) (T := TX0) (N := 2) inX0 0 rfl rfl 1 (by decide) m24 rfl dC_mixQuarter_82 ?_
  refine j_iload_n hg 1 dC_mixQuarter_85 rfl rfl ?_
  refine j_dup2_11 hg dC_mixQuarter_86 rfl rfl ?_
  refine j_iald hg (v := (qx (qa (qx (qa f a b) d a 16) c d) b c 12) a) 1 a rfl rfl (by omega) (by omega) rfl dC_mixQuarter_87 ?_
  refine j_aload_n hg 0 dC_mixQuarter_88 rfl rfl ?_
  refine j_get hg (C := RX0) (T := TX0) (N := 2) inX0 0 rfl rfl 1 (by decide) m24 rfl dC_mixQuarter_89 ?_
  refine j_iload_n hg 2 dC_mixQuarter_92 rfl rfl ?_
  refine j_iald hg (v := (qx (qa (qx (qa f a b) d a 16) c d) b c 12) b) 1 b rfl rfl (by omega) (by omega) rfl dC_mixQuarter_93 ?_
  refine j_iadd hg (v := ((qx (qa (qx (qa f a b) d a 16) c d) b c 12) a) + ((qx (qa (qx (qa f a b) d a 16) c d) b c 12) b)) dC_mixQuarter_94 rfl ?_
  refine j_iast hg (ws' := [ob h 0 [.ref p, .ref q], aI E q 16 (qa (qx (qa (qx (qa f a b) d a 16) c d) b c 12) a b)]) 1 a rfl rfl (by omega) (by omega) rfl dC_mixQuarter_95 ?_
  refine j_aload_n hg 0 dC_mixQuarter_96 rfl rfl ?_
  refine j_get hg (C := RX0) (T := TX0) (N := 2) inX0 0 rfl rfl 1 (by decide) m24 rfl dC_mixQuarter_97 ?_
  refine j_iload hg 4 dC_mixQuarter_100 rfl ?_
  refine j_aload_n hg 0 dC_mixQuarter_102 rfl rfl ?_
  refine j_get hg (C := RX0) (T := TX0) (N := 2) inX0 0 rfl rfl 1 (by decide) m24 rfl dC_mixQuarter_103 ?_
  refine j_iload hg 4 dC_mixQuarter_106 rfl ?_
  refine j_iald hg (v := (qa (qx (qa (qx (qa f a b) d a 16) c d) b c 12) a b) d) 1 d rfl rfl (by omega) (by omega) rfl dC_mixQuarter_108 ?_
  refine j_aload_n hg 0 dC_mixQuarter_109 rfl rfl ?_
  refine j_get hg (C := RX0) (T := TX0) (N := 2) inX0 0 rfl rfl 1 (by decide) m24 rfl dC_mixQuarter_110 ?_
  refine j_iload_n hg 1 dC_mixQuarter_113 rfl rfl ?_
  refine j_iald hg (v := (qa (qx (qa (qx (qa f a b) d a 16) c d) b c 12) a b) a) 1 a rfl rfl (by omega) (by omega) rfl dC_mixQuarter_114 ?_
  refine j_ixor hg (v := ((qa (qx (qa (qx (qa f a b) d a 16) c d) b c 12) a b) d) ^^^ ((qa (qx (qa (qx (qa f a b) d a 16) c d) b c 12) a b) a)) dC_mixQuarter_115 rfl ?_
  refine j_bipush hg (v := 8) dC_mixQuarter_116 (by decide) ?_
  refine j_callSN hg (n := 2) (y := yS_turnLeft) (rm := rm_S_turnLeft) (Ws := (cT yS_turnLeft cS_turnLeft 2 (some .int))) (As := [.int (((qa (qx (qa (qx (qa f a b) d a 16) c d) b c 12) a b) d) ^^^ ((qa (qx (qa (qx (qa f a b) d a 16) c d) b c 12) a b) a)), .int 8]) (rest := [.int (nI d), .ref q]) (wr := [ob h 0 [.ref p, .ref q], aI E q 16 (qa (qx (qa (qx (qa f a b) d a 16) c d) b c 12) a b)]) (host := RX3) (c_S_turnLeft l E (((qa (qx (qa (qx (qa f a b) d a 16) c d) b c 12) a b) d) ^^^ ((qa (qx (qa (qx (qa f a b) d a 16) c d) b c 12) a b) a)) 8) (gdT m180) rfl m1 (by decide +kernel) m179 (by decide +kernel) ⟨by decide, by decide⟩ rfl rfl (Nat.le_of_ble_eq_true rfl) ⟨by decide, by decide⟩ [] [0, 1] rfl rfl (by decide) (by decide) (by decide) dC_mixQuarter_118 (fun _ _ => ?_)
  show J E 5 g [ob h 0 [.ref p, .ref q], aI E q 16 (qa (qx (qa (qx (qa f a b) d a 16) c d) b c 12) a b)] [(0, .ref h), (1, .int (nI a)), (2, .int (nI b)), (3, .int (nI c)), (4, .int (nI d))] 0 0 121 [.int (tl (((qa (qx (qa (qx (qa f a b) d a 16) c d) b c 12) a b) d) ^^^ ((qa (qx (qa (qx (qa f a b) d a 16) c d) b c 12) a b) a)) 8), .int (nI d), .ref q]
  refine j_iast hg (ws' := [ob h 0 [.ref p, .ref q], aI E q 16 (qx (qa (qx (qa (qx (qa f a b) d a 16) c d) b c 12) a b) d a 8)]) 1 d rfl rfl (by omega) (by omega) rfl dC_mixQuarter_121 ?_
  refine j_aload_n hg 0 dC_mixQuarter_122 rfl rfl ?_
  refine j_get hg (C := RX0) (T := TX0) (N := 2) inX0 0 rfl rfl 1 (by decide) m24 rfl dC_mixQuarter_123 ?_
  refine j_iload_n hg 3 dC_mixQuarter_126 rfl rfl ?_
  refine j_dup2_11 hg dC_mixQuarter_127 rfl rfl ?_
  refine j_iald hg (v := (qx (qa (qx (qa (qx (qa f a b) d a 16) c d) b c 12) a b) d a 8) c) 1 c rfl rfl (by omega) (by omega) rfl dC_mixQuarter_128 ?_
  refine j_aload_n hg 0 dC_mixQuarter_129 rfl rfl ?_
  refine j_get hg (C := RX0) (T := TX0) (N := 2) inX0 0 rfl rfl 1 (by decide) m24 rfl dC_mixQuarter_130 ?_
  refine j_iload hg 4 dC_mixQuarter_133 rfl ?_
  refine j_iald hg (v := (qx (qa (qx (qa (qx (qa f a b) d a 16) c d) b c 12) a b) d a 8) d) 1 d rfl rfl (by omega) (by omega) rfl dC_mixQuarter_135 ?_
  refine j_iadd hg (v := ((qx (qa (qx (qa (qx (qa f a b) d a 16) c d) b c 12) a b) d a 8) c) + ((qx (qa (qx (qa (qx (qa f a b) d a 16) c d) b c 12) a b) d a 8) d)) dC_mixQuarter_136 rfl ?_
  refine j_iast hg (ws' := [ob h 0 [.ref p, .ref q], aI E q 16 (qa (qx (qa (qx (qa (qx (qa f a b) d a 16) c d) b c 12) a b) d a 8) c d)]) 1 c rfl rfl (by omega) (by omega) rfl dC_mixQuarter_137 ?_
  refine j_aload_n hg 0 dC_mixQuarter_138 rfl rfl ?_
  refine j_get hg (C := RX0) (T := TX0) (N := 2) inX0 0 rfl rfl 1 (by decide) m24 rfl dC_mixQuarter_139 ?_
  refine j_iload_n hg 2 dC_mixQuarter_142 rfl rfl ?_
  refine j_aload_n hg 0 dC_mixQuarter_143 rfl rfl ?_
  refine j_get hg (C := RX0) (T := TX0) (N := 2) inX0 0 rfl rfl 1 (by decide) m24 rfl dC_mixQuarter_144 ?_
  refine j_iload_n hg 2 dC_mixQuarter_147 rfl rfl ?_
  refine j_iald hg (v := (qa (qx (qa (qx (qa (qx (qa f a b) d a 16) c d) b c 12) a b) d a 8) c d) b) 1 b rfl rfl (by omega) (by omega) rfl dC_mixQuarter_148 ?_
  refine j_aload_n hg 0 dC_mixQuarter_149 rfl rfl ?_
  refine j_get hg (C := RX0) (T := TX0) (N := 2) inX0 0 rfl rfl 1 (by decide) m24 rfl dC_mixQuarter_150 ?_
  refine j_iload_n hg 3 dC_mixQuarter_153 rfl rfl ?_
  refine j_iald hg (v := (qa (qx (qa (qx (qa (qx (qa f a b) d a 16) c d) b c 12) a b) d a 8) c d) c) 1 c rfl rfl (by omega) (by omega) rfl dC_mixQuarter_154 ?_
  refine j_ixor hg (v := ((qa (qx (qa (qx (qa (qx (qa f a b) d a 16) c d) b c 12) a b) d a 8) c d) b) ^^^ ((qa (qx (qa (qx (qa (qx (qa f a b) d a 16) c d) b c 12) a b) d a 8) c d) c)) dC_mixQuarter_155 rfl ?_
  refine j_bipush hg (v := 7) dC_mixQuarter_156 (by decide) ?_
  refine j_callSN hg (n := 2) (y := yS_turnLeft) (rm := rm_S_turnLeft) (Ws := (cT yS_turnLeft cS_turnLeft 2 (some .int))) (As := [.int (((qa (qx (qa (qx (qa (qx (qa f a b) d a 16) c d) b c 12) a b) d a 8) c d) b) ^^^ ((qa (qx (qa (qx (qa (qx (qa f a b) d a 16) c d) b c 12) a b) d a 8) c d) c)), .int 7]) (rest := [.int (nI b), .ref q]) (wr := [ob h 0 [.ref p, .ref q], aI E q 16 (qa (qx (qa (qx (qa (qx (qa f a b) d a 16) c d) b c 12) a b) d a 8) c d)]) (host := RX3) (c_S_turnLeft l E (((qa (qx (qa (qx (qa (qx (qa f a b) d a 16) c d) b c 12) a b) d a 8) c d) b) ^^^ ((qa (qx (qa (qx (qa (qx (qa f a b) d a 16) c d) b c 12) a b) d a 8) c d) c)) 7) (gdT m180) rfl m1 (by decide +kernel) m179 (by decide +kernel) ⟨by decide, by decide⟩ rfl rfl (Nat.le_of_ble_eq_true rfl) ⟨by decide, by decide⟩ [] [0, 1] rfl rfl (by decide) (by decide) (by decide) dC_mixQuarter_158 (fun _ _ => ?_)
  show J E 5 g [ob h 0 [.ref p, .ref q], aI E q 16 (qa (qx (qa (qx (qa (qx (qa f a b) d a 16) c d) b c 12) a b) d a 8) c d)] [(0, .ref h), (1, .int (nI a)), (2, .int (nI b)), (3, .int (nI c)), (4, .int (nI d))] 0 0 161 [.int (tl (((qa (qx (qa (qx (qa (qx (qa f a b) d a 16) c d) b c 12) a b) d a 8) c d) b) ^^^ ((qa (qx (qa (qx (qa (qx (qa f a b) d a 16) c d) b c 12) a b) d a 8) c d) c)) 7), .int (nI b), .ref q]
  refine j_iast hg (ws' := [ob h 0 [.ref p, .ref q], aI E q 16 (qx (qa (qx (qa (qx (qa (qx (qa f a b) d a 16) c d) b c 12) a b) d a 8) c d) b c 7)]) 1 b rfl rfl (by omega) (by omega) rfl dC_mixQuarter_161 ?_
  exact j_vret hg hR () trivial rfl [0, 1] rfl (by decide) (by decide) (by decide) dC_mixQuarter_162

def rm_C_mixColumns : Room := { frames := 2, cells := 0, slots := 0, locals := 45 }
set_option maxHeartbeats 1000000 in
set_option maxRecDepth 100000 in
theorem c_C_mixColumns (l : Launch) (E : Ev) (h p q : Nat) (f : Nat → Int32) : MC E l yC_mixColumns (cT yC_mixColumns cC_mixColumns 1 none) rm_C_mixColumns [.ref h] [ob h 0 [.ref p, .ref q], aI E q 16 f] Unit (fun _ => True) (fun _ => none) (fun _ => [ob h 0 [.ref p, .ref q], aI E q 16 (qcol f)]) := by
  refine MC.of (cc := cC_mixColumns) (nL := 1) (ret := none) (by decide) rfl cT_in (Nat.le_of_ble_eq_true rfl) (fun g hg hR => ?_)
  show J E 1 g [ob h 0 [.ref p, .ref q], aI E q 16 f] [(0, .ref h)] 0 0 0 []
  refine j_aload_n hg 0 dC_mixColumns_0 rfl rfl ?_
  refine j_iconst hg (v := 0) dC_mixColumns_1 (by decide) ?_
  refine j_iconst hg (v := 4) dC_mixColumns_2 (by decide) ?_
  refine j_bipush hg (v := 8) dC_mixColumns_3 (by decide) ?_
  refine j_bipush hg (v := 12) dC_mixColumns_5 (by decide) ?_
  refine j_callV hg (n := 4) (y := yC_mixQuarter) (rm := rm_C_mixQuarter) (Ws := (cT yC_mixQuarter cC_mixQuarter 5 none)) (As := [.int 0, .int 4, .int 8, .int 12]) (rest := []) (wr := []) 0 rfl rfl (c_C_mixQuarter l E h p q f 0 4 8 12 (by omega) (by omega) (by omega) (by omega)) (gdV m174 m176 ms3 m2 m177) rfl (by decide +kernel) ⟨by decide, by decide⟩ rfl rfl (Nat.le_of_ble_eq_true rfl) ⟨by decide, by decide⟩ [0, 1] [] rfl rfl (by decide) (by decide) (by decide) dC_mixColumns_7 (fun _ _ => ?_)
  show J E 1 g [ob h 0 [.ref p, .ref q], aI E q 16 (qr f 0 4 8 12)] [(0, .ref h)] 0 0 10 []
  refine j_aload_n hg 0 dC_mixColumns_10 rfl rfl ?_
  refine j_iconst hg (v := 1) dC_mixColumns_11 (by decide) ?_
  refine j_iconst hg (v := 5) dC_mixColumns_12 (by decide) ?_
  refine j_bipush hg (v := 9) dC_mixColumns_13 (by decide) ?_
  refine j_bipush hg (v := 13) dC_mixColumns_15 (by decide) ?_
  refine j_callV hg (n := 4) (y := yC_mixQuarter) (rm := rm_C_mixQuarter) (Ws := (cT yC_mixQuarter cC_mixQuarter 5 none)) (As := [.int 1, .int 5, .int 9, .int 13]) (rest := []) (wr := []) 0 rfl rfl (c_C_mixQuarter l E h p q (qr f 0 4 8 12) 1 5 9 13 (by omega) (by omega) (by omega) (by omega)) (gdV m174 m176 ms3 m2 m177) rfl (by decide +kernel) ⟨by decide, by decide⟩ rfl rfl (Nat.le_of_ble_eq_true rfl) ⟨by decide, by decide⟩ [0, 1] [] rfl rfl (by decide) (by decide) (by decide) dC_mixColumns_17 (fun _ _ => ?_)
  show J E 1 g [ob h 0 [.ref p, .ref q], aI E q 16 (qr (qr f 0 4 8 12) 1 5 9 13)] [(0, .ref h)] 0 0 20 []
  refine j_aload_n hg 0 dC_mixColumns_20 rfl rfl ?_
  refine j_iconst hg (v := 2) dC_mixColumns_21 (by decide) ?_
  refine j_bipush hg (v := 6) dC_mixColumns_22 (by decide) ?_
  refine j_bipush hg (v := 10) dC_mixColumns_24 (by decide) ?_
  refine j_bipush hg (v := 14) dC_mixColumns_26 (by decide) ?_
  refine j_callV hg (n := 4) (y := yC_mixQuarter) (rm := rm_C_mixQuarter) (Ws := (cT yC_mixQuarter cC_mixQuarter 5 none)) (As := [.int 2, .int 6, .int 10, .int 14]) (rest := []) (wr := []) 0 rfl rfl (c_C_mixQuarter l E h p q (qr (qr f 0 4 8 12) 1 5 9 13) 2 6 10 14 (by omega) (by omega) (by omega) (by omega)) (gdV m174 m176 ms3 m2 m177) rfl (by decide +kernel) ⟨by decide, by decide⟩ rfl rfl (Nat.le_of_ble_eq_true rfl) ⟨by decide, by decide⟩ [0, 1] [] rfl rfl (by decide) (by decide) (by decide) dC_mixColumns_28 (fun _ _ => ?_)
  show J E 1 g [ob h 0 [.ref p, .ref q], aI E q 16 (qr (qr (qr f 0 4 8 12) 1 5 9 13) 2 6 10 14)] [(0, .ref h)] 0 0 31 []
  refine j_aload_n hg 0 dC_mixColumns_31 rfl rfl ?_
  refine j_iconst hg (v := 3) dC_mixColumns_32 (by decide) ?_
  refine j_bipush hg (v := 7) dC_mixColumns_33 (by decide) ?_
  refine j_bipush hg (v := 11) dC_mixColumns_35 (by decide) ?_
  refine j_bipush hg (v := 15) dC_mixColumns_37 (by decide) ?_
  refine j_callV hg (n := 4) (y := yC_mixQuarter) (rm := rm_C_mixQuarter) (Ws := (cT yC_mixQuarter cC_mixQuarter 5 none)) (As := [.int 3, .int 7, .int 11, .int 15]) (rest := []) (wr := []) 0 rfl rfl (c_C_mixQuarter l E h p q (qr (qr (qr f 0 4 8 12) 1 5 9 13) 2 6 10 14) 3 7 11 15 (by omega) (by omega) (by omega) (by omega)) (gdV m174 m176 ms3 m2 m177) rfl (by decide +kernel) ⟨by decide, by decide⟩ rfl rfl (Nat.le_of_ble_eq_true rfl) ⟨by decide, by decide⟩ [0, 1] [] rfl rfl (by decide) (by decide) (by decide) dC_mixColumns_39 (fun _ _ => ?_)
  show J E 1 g [ob h 0 [.ref p, .ref q], aI E q 16 (qr (qr (qr (qr f 0 4 8 12) 1 5 9 13) 2 6 10 14) 3 7 11 15)] [(0, .ref h)] 0 0 42 []
  exact j_vret hg hR () trivial rfl [0, 1] rfl (by decide) (by decide) (by decide) dC_mixColumns_42

def rm_C_mixDiagonals : Room := { frames := 2, cells := 0, slots := 0, locals := 45 }
set_option maxHeartbeats 1000000 in
set_option maxRecDepth 100000 in
theorem c_C_mixDiagonals (l : Launch) (E : Ev) (h p q : Nat) (f : Nat → Int32) : MC E l yC_mixDiagonals (cT yC_mixDiagonals cC_mixDiagonals 1 none) rm_C_mixDiagonals [.ref h] [ob h 0 [.ref p, .ref q], aI E q 16 f] Unit (fun _ => True) (fun _ => none) (fun _ => [ob h 0 [.ref p, .ref q], aI E q 16 (qdia f)]) := by
  refine MC.of (cc := cC_mixDiagonals) (nL := 1) (ret := none) (by decide) rfl cT_in (Nat.le_of_ble_eq_true rfl) (fun g hg hR => ?_)
  show J E 1 g [ob h 0 [.ref p, .ref q], aI E q 16 f] [(0, .ref h)] 0 0 0 []
  refine j_aload_n hg 0 dC_mixDiagonals_0 rfl rfl ?_
  refine j_iconst hg (v := 0) dC_mixDiagonals_1 (by decide) ?_
  refine j_iconst hg (v := 5) dC_mixDiagonals_2 (by decide) ?_
  refine j_bipush hg (v := 10) dC_mixDiagonals_3 (by decide) ?_
  refine j_bipush hg (v := 15) dC_mixDiagonals_5 (by decide) ?_
  refine j_callV hg (n := 4) (y := yC_mixQuarter) (rm := rm_C_mixQuarter) (Ws := (cT yC_mixQuarter cC_mixQuarter 5 none)) (As := [.int 0, .int 5, .int 10, .int 15]) (rest := []) (wr := []) 0 rfl rfl (c_C_mixQuarter l E h p q f 0 5 10 15 (by omega) (by omega) (by omega) (by omega)) (gdV m174 m176 ms3 m2 m177) rfl (by decide +kernel) ⟨by decide, by decide⟩ rfl rfl (Nat.le_of_ble_eq_true rfl) ⟨by decide, by decide⟩ [0, 1] [] rfl rfl (by decide) (by decide) (by decide) dC_mixDiagonals_7 (fun _ _ => ?_)
  show J E 1 g [ob h 0 [.ref p, .ref q], aI E q 16 (qr f 0 5 10 15)] [(0, .ref h)] 0 0 10 []
  refine j_aload_n hg 0 dC_mixDiagonals_10 rfl rfl ?_
  refine j_iconst hg (v := 1) dC_mixDiagonals_11 (by decide) ?_
  refine j_bipush hg (v := 6) dC_mixDiagonals_12 (by decide) ?_
  refine j_bipush hg (v := 11) dC_mixDiagonals_14 (by decide) ?_
  refine j_bipush hg (v := 12) dC_mixDiagonals_16 (by decide) ?_
  refine j_callV hg (n := 4) (y := yC_mixQuarter) (rm := rm_C_mixQuarter) (Ws := (cT yC_mixQuarter cC_mixQuarter 5 none)) (As := [.int 1, .int 6, .int 11, .int 12]) (rest := []) (wr := []) 0 rfl rfl (c_C_mixQuarter l E h p q (qr f 0 5 10 15) 1 6 11 12 (by omega) (by omega) (by omega) (by omega)) (gdV m174 m176 ms3 m2 m177) rfl (by decide +kernel) ⟨by decide, by decide⟩ rfl rfl (Nat.le_of_ble_eq_true rfl) ⟨by decide, by decide⟩ [0, 1] [] rfl rfl (by decide) (by decide) (by decide) dC_mixDiagonals_18 (fun _ _ => ?_)
  show J E 1 g [ob h 0 [.ref p, .ref q], aI E q 16 (qr (qr f 0 5 10 15) 1 6 11 12)] [(0, .ref h)] 0 0 21 []
  refine j_aload_n hg 0 dC_mixDiagonals_21 rfl rfl ?_
  refine j_iconst hg (v := 2) dC_mixDiagonals_22 (by decide) ?_
  refine j_bipush hg (v := 7) dC_mixDiagonals_23 (by decide) ?_
  refine j_bipush hg (v := 8) dC_mixDiagonals_25 (by decide) ?_
  refine j_bipush hg (v := 13) dC_mixDiagonals_27 (by decide) ?_
  refine j_callV hg (n := 4) (y := yC_mixQuarter) (rm := rm_C_mixQuarter) (Ws := (cT yC_mixQuarter cC_mixQuarter 5 none)) (As := [.int 2, .int 7, .int 8, .int 13]) (rest := []) (wr := []) 0 rfl rfl (c_C_mixQuarter l E h p q (qr (qr f 0 5 10 15) 1 6 11 12) 2 7 8 13 (by omega) (by omega) (by omega) (by omega)) (gdV m174 m176 ms3 m2 m177) rfl (by decide +kernel) ⟨by decide, by decide⟩ rfl rfl (Nat.le_of_ble_eq_true rfl) ⟨by decide, by decide⟩ [0, 1] [] rfl rfl (by decide) (by decide) (by decide) dC_mixDiagonals_29 (fun _ _ => ?_)
  show J E 1 g [ob h 0 [.ref p, .ref q], aI E q 16 (qr (qr (qr f 0 5 10 15) 1 6 11 12) 2 7 8 13)] [(0, .ref h)] 0 0 32 []
  refine j_aload_n hg 0 dC_mixDiagonals_32 rfl rfl ?_
  refine j_iconst hg (v := 3) dC_mixDiagonals_33 (by decide) ?_
  refine j_iconst hg (v := 4) dC_mixDiagonals_34 (by decide) ?_
  refine j_bipush hg (v := 9) dC_mixDiagonals_35 (by decide) ?_
  refine j_bipush hg (v := 14) dC_mixDiagonals_37 (by decide) ?_
  refine j_callV hg (n := 4) (y := yC_mixQuarter) (rm := rm_C_mixQuarter) (Ws := (cT yC_mixQuarter cC_mixQuarter 5 none)) (As := [.int 3, .int 4, .int 9, .int 14]) (rest := []) (wr := []) 0 rfl rfl (c_C_mixQuarter l E h p q (qr (qr (qr f 0 5 10 15) 1 6 11 12) 2 7 8 13) 3 4 9 14 (by omega) (by omega) (by omega) (by omega)) (gdV m174 m176 ms3 m2 m177) rfl (by decide +kernel) ⟨by decide, by decide⟩ rfl rfl (Nat.le_of_ble_eq_true rfl) ⟨by decide, by decide⟩ [0, 1] [] rfl rfl (by decide) (by decide) (by decide) dC_mixDiagonals_39 (fun _ _ => ?_)
  show J E 1 g [ob h 0 [.ref p, .ref q], aI E q 16 (qr (qr (qr (qr f 0 5 10 15) 1 6 11 12) 2 7 8 13) 3 4 9 14)] [(0, .ref h)] 0 0 42 []
  exact j_vret hg hR () trivial rfl [0, 1] rfl (by decide) (by decide) (by decide) dC_mixDiagonals_42

def rm_C_lay : Room := { frames := 1, cells := 0, slots := 0, locals := 21 }
set_option maxHeartbeats 1000000 in
set_option maxRecDepth 100000 in
theorem c_C_lay (l : Launch) (E : Ev) (h p q kk nn : Nat) (f fk fn : Nat → Int32) (ctr : Int32) : MC E l yC_lay (cT yC_lay cC_lay 5 none) rm_C_lay [.ref h, .ref kk, .ref nn, .int ctr] [ob h 0 [.ref p, .ref q], aI E p 16 f, aB E kk 32 fk, aB E nn 12 fn] Unit (fun _ => True) (fun _ => none) (fun _ => [ob h 0 [.ref p, .ref q], aI E p 16 (layF f fk fn ctr), aB E kk 32 fk, aB E nn 12 fn]) := by
  refine MC.of (cc := cC_lay) (nL := 5) (ret := none) (by decide) rfl cT_in (Nat.le_of_ble_eq_true rfl) (fun g hg hR => ?_)
  show J E 5 g [ob h 0 [.ref p, .ref q], aI E p 16 f, aB E kk 32 fk, aB E nn 12 fn] [(0, .ref h), (1, .ref kk), (2, .ref nn), (3, .int ctr)] 0 0 0 []
  refine j_aload_n hg 0 dC_lay_0 rfl rfl ?_
  refine j_get hg (C := RX0) (T := TX0) (N := 2) inX0 0 rfl rfl 0 (by decide) m23 rfl dC_lay_1 ?_
  refine j_iconst hg (v := 0) dC_lay_4 (by decide) ?_
  refine j_ldc hg (v := 1634760805) m162 dC_lay_5 ?_
  refine j_iast hg (ws' := [ob h 0 [.ref p, .ref q], aI E p 16 (upd f 0 1634760805), aB E kk 32 fk, aB E nn 12 fn]) 1 0 rfl rfl (by omega) (by omega) rfl dC_lay_7 ?_
  refine j_aload_n hg 0 dC_lay_8 rfl rfl ?_
  refine j_get hg (C := RX0) (T := TX0) (N := 2) inX0 0 rfl rfl 0 (by decide) m23 rfl dC_lay_9 ?_
  refine j_iconst hg (v := 1) dC_lay_12 (by decide) ?_
  refine j_ldc hg (v := 857760878) m163 dC_lay_13 ?_
  refine j_iast hg (ws' := [ob h 0 [.ref p, .ref q], aI E p 16 (upd (upd f 0 1634760805) 1 857760878), aB E kk 32 fk, aB E nn 12 fn]) 1 1 rfl rfl (by omega) (by omega) rfl dC_lay_15 ?_
  refine j_aload_n hg 0 dC_lay_16 rfl rfl ?_
  refine j_get hg (C := RX0) (T := TX0) (N := 2) inX0 0 rfl rfl 0 (by decide) m23 rfl dC_lay_17 ?_
  refine j_iconst hg (v := 2) dC_lay_20 (by decide) ?_
  refine j_ldc hg (v := 2036477234) m164 dC_lay_21 ?_
  refine j_iast hg (ws' := [ob h 0 [.ref p, .ref q], aI E p 16 (upd (upd (upd f 0 1634760805) 1 857760878) 2 2036477234), aB E kk 32 fk, aB E nn 12 fn]) 1 2 rfl rfl (by omega) (by omega) rfl dC_lay_23 ?_
  refine j_aload_n hg 0 dC_lay_24 rfl rfl ?_
  refine j_get hg (C := RX0) (T := TX0) (N := 2) inX0 0 rfl rfl 0 (by decide) m23 rfl dC_lay_25 ?_
  refine j_iconst hg (v := 3) dC_lay_28 (by decide) ?_
  refine j_ldc hg (v := 1797285236) m165 dC_lay_29 ?_
  refine j_iast hg (ws' := [ob h 0 [.ref p, .ref q], aI E p 16 (upd (upd (upd (upd f 0 1634760805) 1 857760878) 2 2036477234) 3 1797285236), aB E kk 32 fk, aB E nn 12 fn]) 1 3 rfl rfl (by omega) (by omega) rfl dC_lay_31 ?_
  refine j_iconst hg (v := 0) dC_lay_32 (by decide) ?_
  refine j_istore hg (lv' := [(4, .int 0), (0, .ref h), (1, .ref kk), (2, .ref nn), (3, .int ctr)]) dC_lay_33 (by decide) rfl ?_
  refine j_pick [1, 2, 3, 4, 0] (lv' := [(0, .ref h), (1, .ref kk), (2, .ref nn), (3, .int ctr), (4, .int 0)]) rfl ?_
  have loop : ∀ (zk i : Nat), i + zk = 8 → J E 5 g [ob h 0 [.ref p, .ref q], aI E p 16 (layk fk (lay0 f) i), aB E kk 32 fk, aB E nn 12 fn] [(0, .ref h), (1, .ref kk), (2, .ref nn), (3, .int ctr), (4, .int (nI i))] 0 0 35 [] := by
    intro zk
    induction zk with
    | zero =>
      intro i  hi
      obtain rfl : 8 = i := by omega
      refine j_iload hg 4 dC_lay_35 rfl ?_
      refine j_bipush hg (v := 8) dC_lay_37 (by decide) ?_
      refine j_nge_t hg (tgt := 65) 8 8 rfl rfl (by omega) (by omega) (by omega) dC_lay_39 (by decide) ?_
      refine j_aload_n hg 0 dC_lay_65 rfl rfl ?_
      refine j_get hg (C := RX0) (T := TX0) (N := 2) inX0 0 rfl rfl 0 (by decide) m23 rfl dC_lay_66 ?_
      refine j_bipush hg (v := 12) dC_lay_69 (by decide) ?_
      refine j_iload_n hg 3 dC_lay_71 rfl rfl ?_
      refine j_iast hg (ws' := [ob h 0 [.ref p, .ref q], aI E p 16 (upd (layk fk (lay0 f) 8) 12 ctr), aB E kk 32 fk, aB E nn 12 fn]) 1 12 rfl rfl (by omega) (by omega) rfl dC_lay_72 ?_
      refine j_iconst hg (v := 0) dC_lay_73 (by decide) ?_
      refine j_istore hg (lv' := [(4, .int 0), (0, .ref h), (1, .ref kk), (2, .ref nn), (3, .int ctr)]) dC_lay_74 (by decide) rfl ?_
      refine j_pick [1, 2, 3, 4, 0] (lv' := [(0, .ref h), (1, .ref kk), (2, .ref nn), (3, .int ctr), (4, .int 0)]) rfl ?_
      have loop2 : ∀ (zk i : Nat), i + zk = 3 → J E 5 g [ob h 0 [.ref p, .ref q], aI E p 16 (layn fn (upd (layk fk (lay0 f) 8) 12 ctr) i), aB E kk 32 fk, aB E nn 12 fn] [(0, .ref h), (1, .ref kk), (2, .ref nn), (3, .int ctr), (4, .int (nI i))] 0 0 76 [] := by
        intro zk
        induction zk with
        | zero =>
          intro i  hi
          obtain rfl : 3 = i := by omega
          refine j_iload hg 4 dC_lay_76 rfl ?_
          refine j_iconst hg (v := 3) dC_lay_78 (by decide) ?_
          refine j_nge_t hg (tgt := 106) 3 3 rfl rfl (by omega) (by omega) (by omega) dC_lay_79 (by decide) ?_
          exact j_vret hg hR () trivial rfl [0, 1, 2, 3] rfl (by decide) (by decide) (by decide) dC_lay_106
        | succ zk ih =>
          intro i  hi
          refine j_iload hg 4 dC_lay_76 rfl ?_
          refine j_iconst hg (v := 3) dC_lay_78 (by decide) ?_
          refine j_nge_f hg (tgt := 106) i 3 rfl rfl (by omega) (by omega) (by omega) dC_lay_79 (by decide) ?_
          refine j_aload_n hg 0 dC_lay_82 rfl rfl ?_
          refine j_get hg (C := RX0) (T := TX0) (N := 2) inX0 0 rfl rfl 0 (by decide) m23 rfl dC_lay_83 ?_
          refine j_bipush hg (v := 13) dC_lay_86 (by decide) ?_
          refine j_iload hg 4 dC_lay_88 rfl ?_
          refine j_iadd hg (v := nI (13 + i)) dC_lay_90 (nI_add 13 i) ?_
          refine j_aload_n hg 2 dC_lay_91 rfl rfl ?_
          refine j_iconst hg (v := 4) dC_lay_92 (by decide) ?_
          refine j_iload hg 4 dC_lay_93 rfl ?_
          refine j_imul hg (v := nI (4 * i)) dC_lay_95 (pk_mul 4 i) ?_
          refine j_callSN hg (n := 2) (y := yS_readLowestFirst) (rm := rm_S_readLowestFirst) (Ws := (cT yS_readLowestFirst cS_readLowestFirst 2 (some .int))) (As := [.ref nn, .int (nI (4 * i))]) (rest := [.int (nI (13 + i)), .ref p]) (wr := [ob h 0 [.ref p, .ref q], aI E p 16 (layn fn (upd (layk fk (lay0 f) 8) 12 ctr) i), aB E kk 32 fk]) (host := RX3) (c_S_readLowestFirst l E nn 12 fn (4 * i) (by omega) (by omega)) (gdT m168) rfl m1 (by decide +kernel) m167 (by decide +kernel) ⟨by decide, by decide⟩ rfl rfl (Nat.le_of_ble_eq_true rfl) ⟨by decide, by decide⟩ [3] [0, 1, 2] rfl rfl (by decide) (by decide) (by decide) dC_lay_96 (fun _ _ => ?_)
          show J E 5 g [ob h 0 [.ref p, .ref q], aI E p 16 (layn fn (upd (layk fk (lay0 f) 8) 12 ctr) i), aB E kk 32 fk, aB E nn 12 fn] [(0, .ref h), (1, .ref kk), (2, .ref nn), (3, .int ctr), (4, .int (nI i))] 0 0 99 [.int (rl fn (4 * i)), .int (nI (13 + i)), .ref p]
          refine j_iast hg (ws' := [ob h 0 [.ref p, .ref q], aI E p 16 (upd (layn fn (upd (layk fk (lay0 f) 8) 12 ctr) i) (13 + i) (rl fn (4 * i))), aB E kk 32 fk, aB E nn 12 fn]) 1 (13 + i) rfl rfl (by omega) (by omega) rfl dC_lay_99 ?_
          refine j_iinc hg (kq := 4) (v := nI (i + 1)) (lv' := [(4, .int (nI (i + 1))), (0, .ref h), (1, .ref kk), (2, .ref nn), (3, .int ctr)]) dC_lay_100 rfl (nI_add i 1) (by decide) rfl ?_
          refine j_goto hg (tgt := 76) dC_lay_103 (by decide) ?_
          refine j_pick [1, 2, 3, 4, 0] (lv' := [(0, .ref h), (1, .ref kk), (2, .ref nn), (3, .int ctr), (4, .int (nI (i + 1)))]) rfl ?_
          exact ih (i + 1) (by omega)
      exact loop2 (3) 0 (by omega)
    | succ zk ih =>
      intro i  hi
      refine j_iload hg 4 dC_lay_35 rfl ?_
      refine j_bipush hg (v := 8) dC_lay_37 (by decide) ?_
      refine j_nge_f hg (tgt := 65) i 8 rfl rfl (by omega) (by omega) (by omega) dC_lay_39 (by decide) ?_
      refine j_aload_n hg 0 dC_lay_42 rfl rfl ?_
      refine j_get hg (C := RX0) (T := TX0) (N := 2) inX0 0 rfl rfl 0 (by decide) m23 rfl dC_lay_43 ?_
      refine j_iconst hg (v := 4) dC_lay_46 (by decide) ?_
      refine j_iload hg 4 dC_lay_47 rfl ?_
      refine j_iadd hg (v := nI (4 + i)) dC_lay_49 (nI_add 4 i) ?_
      refine j_aload_n hg 1 dC_lay_50 rfl rfl ?_
      refine j_iconst hg (v := 4) dC_lay_51 (by decide) ?_
      refine j_iload hg 4 dC_lay_52 rfl ?_
      refine j_imul hg (v := nI (4 * i)) dC_lay_54 (pk_mul 4 i) ?_
      refine j_callSN hg (n := 2) (y := yS_readLowestFirst) (rm := rm_S_readLowestFirst) (Ws := (cT yS_readLowestFirst cS_readLowestFirst 2 (some .int))) (As := [.ref kk, .int (nI (4 * i))]) (rest := [.int (nI (4 + i)), .ref p]) (wr := [ob h 0 [.ref p, .ref q], aI E p 16 (layk fk (lay0 f) i), aB E nn 12 fn]) (host := RX3) (c_S_readLowestFirst l E kk 32 fk (4 * i) (by omega) (by omega)) (gdT m168) rfl m1 (by decide +kernel) m167 (by decide +kernel) ⟨by decide, by decide⟩ rfl rfl (Nat.le_of_ble_eq_true rfl) ⟨by decide, by decide⟩ [2] [0, 1, 3] rfl rfl (by decide) (by decide) (by decide) dC_lay_55 (fun _ _ => ?_)
      show J E 5 g [ob h 0 [.ref p, .ref q], aI E p 16 (layk fk (lay0 f) i), aB E nn 12 fn, aB E kk 32 fk] [(0, .ref h), (1, .ref kk), (2, .ref nn), (3, .int ctr), (4, .int (nI i))] 0 0 58 [.int (rl fk (4 * i)), .int (nI (4 + i)), .ref p]
      refine j_iast hg (ws' := [ob h 0 [.ref p, .ref q], aI E p 16 (upd (layk fk (lay0 f) i) (4 + i) (rl fk (4 * i))), aB E nn 12 fn, aB E kk 32 fk]) 1 (4 + i) rfl rfl (by omega) (by omega) rfl dC_lay_58 ?_
      refine j_iinc hg (kq := 4) (v := nI (i + 1)) (lv' := [(4, .int (nI (i + 1))), (0, .ref h), (1, .ref kk), (2, .ref nn), (3, .int ctr)]) dC_lay_59 rfl (nI_add i 1) (by decide) rfl ?_
      refine j_goto hg (tgt := 35) dC_lay_62 (by decide) ?_
      refine j_sub [0, 1, 3, 2] (ws' := [ob h 0 [.ref p, .ref q], aI E p 16 (upd (layk fk (lay0 f) i) (4 + i) (rl fk (4 * i))), aB E kk 32 fk, aB E nn 12 fn]) rfl (by decide) ?_
      refine j_pick [1, 2, 3, 4, 0] (lv' := [(0, .ref h), (1, .ref kk), (2, .ref nn), (3, .int ctr), (4, .int (nI (i + 1)))]) rfl ?_
      exact ih (i + 1) (by omega)
  exact loop (8) 0 (by omega)

def rm_C_fill : Room := { frames := 3, cells := 0, slots := 0, locals := 65 }
set_option maxHeartbeats 1000000 in
set_option maxRecDepth 100000 in
theorem c_C_fill (l : Launch) (E : Ev) (h p q kk nn rr n : Nat) (row f m fk fn : Nat → Int32) (ctr : Int32) (h1 : 64 ≤ n) (h2 : n < 2147483648) : MC E l yC_fill (cT yC_fill cC_fill 6 none) rm_C_fill [.ref h, .ref rr, .ref kk, .ref nn, .int ctr] [ob h 0 [.ref p, .ref q], aI E p 16 f, aI E q 16 m, aB E kk 32 fk, aB E nn 12 fn, aB E rr n row] Unit (fun _ => True) (fun _ => none) (fun _ => [ob h 0 [.ref p, .ref q], aI E p 16 (layF f fk fn ctr), aI E q 16 (mixF f m fk fn ctr), aB E kk 32 fk, aB E nn 12 fn, aB E rr n (fillF row f m fk fn ctr)]) := by
  refine MC.of (cc := cC_fill) (nL := 6) (ret := none) (by decide) rfl cT_in (Nat.le_of_ble_eq_true rfl) (fun g hg hR => ?_)
  show J E 6 g [ob h 0 [.ref p, .ref q], aI E p 16 f, aI E q 16 m, aB E kk 32 fk, aB E nn 12 fn, aB E rr n row] [(0, .ref h), (1, .ref rr), (2, .ref kk), (3, .ref nn), (4, .int ctr)] 0 0 0 []
  refine j_aload_n hg 0 dC_fill_0 rfl rfl ?_
  refine j_aload_n hg 2 dC_fill_1 rfl rfl ?_
  refine j_aload_n hg 3 dC_fill_2 rfl rfl ?_
  refine j_iload hg 4 dC_fill_3 rfl ?_
  refine j_callV hg (n := 3) (y := yC_lay) (rm := rm_C_lay) (Ws := (cT yC_lay cC_lay 5 none)) (As := [.ref kk, .ref nn, .int ctr]) (rest := []) (wr := [aI E q 16 m, aB E rr n row]) 0 rfl rfl (c_C_lay l E h p q kk nn f fk fn ctr) (gdV m158 m160 ms1 m2 m161) rfl (by decide +kernel) ⟨by decide, by decide⟩ rfl rfl (Nat.le_of_ble_eq_true rfl) ⟨by decide, by decide⟩ [0, 1, 3, 4] [2, 5] rfl rfl (by decide) (by decide) (by decide) dC_fill_5 (fun _ _ => ?_)
  show J E 6 g [aI E q 16 m, aB E rr n row, ob h 0 [.ref p, .ref q], aI E p 16 (layF f fk fn ctr), aB E kk 32 fk, aB E nn 12 fn] [(0, .ref h), (1, .ref rr), (2, .ref kk), (3, .ref nn), (4, .int ctr)] 0 0 8 []
  refine j_aload_n hg 0 dC_fill_8 rfl rfl ?_
  refine j_get hg (C := RX0) (T := TX0) (N := 2) inX0 2 rfl rfl 0 (by decide) m23 rfl dC_fill_9 ?_
  refine j_iconst hg (v := 0) dC_fill_12 (by decide) ?_
  refine j_aload_n hg 0 dC_fill_13 rfl rfl ?_
  refine j_get hg (C := RX0) (T := TX0) (N := 2) inX0 2 rfl rfl 1 (by decide) m24 rfl dC_fill_14 ?_
  refine j_iconst hg (v := 0) dC_fill_17 (by decide) ?_
  refine j_bipush hg (v := 16) dC_fill_18 (by decide) ?_
  refine j_copyI hg (ws' := [aI E q 16 (va_cpy (layF f fk fn ctr) m 0 0 16), aB E rr n row, ob h 0 [.ref p, .ref q], aI E p 16 (layF f fk fn ctr), aB E kk 32 fk, aB E nn 12 fn]) 3 0 0 0 16 ⟨m169, m141, m140, m6⟩ rfl rfl rfl rfl rfl (by omega) (by omega) (by omega) (by omega) (Nat.le_of_ble_eq_true rfl) (Nat.le_of_ble_eq_true rfl) rfl dC_fill_20 ?_
  refine j_iconst hg (v := 0) dC_fill_23 (by decide) ?_
  refine j_istore hg (lv' := [(5, .int 0), (0, .ref h), (1, .ref rr), (2, .ref kk), (3, .ref nn), (4, .int ctr)]) dC_fill_24 (by decide) rfl ?_
  refine j_sub [2, 3, 0, 4, 5, 1] (ws' := [ob h 0 [.ref p, .ref q], aI E p 16 (layF f fk fn ctr), aI E q 16 (va_cpy (layF f fk fn ctr) m 0 0 16), aB E kk 32 fk, aB E nn 12 fn, aB E rr n row]) rfl (by decide) ?_
  refine j_pick [1, 2, 3, 4, 5, 0] (lv' := [(0, .ref h), (1, .ref rr), (2, .ref kk), (3, .ref nn), (4, .int ctr), (5, .int 0)]) rfl ?_
  have loop : ∀ (zk i : Nat), i + zk = 10 → J E 6 g [ob h 0 [.ref p, .ref q], aI E p 16 (layF f fk fn ctr), aI E q 16 (qrounds (va_cpy (layF f fk fn ctr) m 0 0 16) i), aB E kk 32 fk, aB E nn 12 fn, aB E rr n row] [(0, .ref h), (1, .ref rr), (2, .ref kk), (3, .ref nn), (4, .int ctr), (5, .int (nI i))] 0 0 26 [] := by
    intro zk
    induction zk with
    | zero =>
      intro i  hi
      obtain rfl : 10 = i := by omega
      refine j_iload hg 5 dC_fill_26 rfl ?_
      refine j_bipush hg (v := 10) dC_fill_28 (by decide) ?_
      refine j_nge_t hg (tgt := 47) 10 10 rfl rfl (by omega) (by omega) (by omega) dC_fill_30 (by decide) ?_
      refine j_iconst hg (v := 0) dC_fill_47 (by decide) ?_
      refine j_istore hg (lv' := [(5, .int 0), (0, .ref h), (1, .ref rr), (2, .ref kk), (3, .ref nn), (4, .int ctr)]) dC_fill_48 (by decide) rfl ?_
      refine j_pick [1, 2, 3, 4, 5, 0] (lv' := [(0, .ref h), (1, .ref rr), (2, .ref kk), (3, .ref nn), (4, .int ctr), (5, .int 0)]) rfl ?_
      have loop2 : ∀ (zk i : Nat), i + zk = 16 → J E 6 g [ob h 0 [.ref p, .ref q], aI E p 16 (layF f fk fn ctr), aI E q 16 (qrounds (va_cpy (layF f fk fn ctr) m 0 0 16) 10), aB E kk 32 fk, aB E nn 12 fn, aB E rr n (outF row (qrounds (va_cpy (layF f fk fn ctr) m 0 0 16) 10) (layF f fk fn ctr) i)] [(0, .ref h), (1, .ref rr), (2, .ref kk), (3, .ref nn), (4, .int ctr), (5, .int (nI i))] 0 0 50 [] := by
        intro zk
        induction zk with
        | zero =>
          intro i  hi
          obtain rfl : 16 = i := by omega
          refine j_iload hg 5 dC_fill_50 rfl ?_
          refine j_bipush hg (v := 16) dC_fill_52 (by decide) ?_
          refine j_nge_t hg (tgt := 86) 16 16 rfl rfl (by omega) (by omega) (by omega) dC_fill_54 (by decide) ?_
          exact j_vret hg hR () trivial rfl [0, 1, 2, 3, 4, 5] rfl (by decide) (by decide) (by decide) dC_fill_86
        | succ zk ih =>
          intro i  hi
          refine j_iload hg 5 dC_fill_50 rfl ?_
          refine j_bipush hg (v := 16) dC_fill_52 (by decide) ?_
          refine j_nge_f hg (tgt := 86) i 16 rfl rfl (by omega) (by omega) (by omega) dC_fill_54 (by decide) ?_
          refine j_aload_n hg 1 dC_fill_57 rfl rfl ?_
          refine j_iconst hg (v := 4) dC_fill_58 (by decide) ?_
          refine j_iload hg 5 dC_fill_59 rfl ?_
          refine j_imul hg (v := nI (4 * i)) dC_fill_61 (pk_mul 4 i) ?_
          refine j_aload_n hg 0 dC_fill_62 rfl rfl ?_
          refine j_get hg (C := RX0) (T := TX0) (N := 2) inX0 0 rfl rfl 1 (by decide) m24 rfl dC_fill_63 ?_
          refine j_iload hg 5 dC_fill_66 rfl ?_
          refine j_iald hg (v := (qrounds (va_cpy (layF f fk fn ctr) m 0 0 16) 10) i) 2 i rfl rfl (by omega) (by omega) rfl dC_fill_68 ?_
          refine j_aload_n hg 0 dC_fill_69 rfl rfl ?_
          refine j_get hg (C := RX0) (T := TX0) (N := 2) inX0 0 rfl rfl 0 (by decide) m23 rfl dC_fill_70 ?_
          refine j_iload hg 5 dC_fill_73 rfl ?_
          refine j_iald hg (v := (layF f fk fn ctr) i) 1 i rfl rfl (by omega) (by omega) rfl dC_fill_75 ?_
          refine j_iadd hg (v := ((qrounds (va_cpy (layF f fk fn ctr) m 0 0 16) 10) i) + ((layF f fk fn ctr) i)) dC_fill_76 rfl ?_
          refine j_callSN hg (n := 3) (y := yS_writeLowestFirst) (rm := rm_S_writeLowestFirst) (Ws := (cT yS_writeLowestFirst cS_writeLowestFirst 3 none)) (As := [.ref rr, .int (nI (4 * i)), .int (((qrounds (va_cpy (layF f fk fn ctr) m 0 0 16) 10) i) + ((layF f fk fn ctr) i))]) (rest := []) (wr := [ob h 0 [.ref p, .ref q], aI E p 16 (layF f fk fn ctr), aI E q 16 (qrounds (va_cpy (layF f fk fn ctr) m 0 0 16) 10), aB E kk 32 fk, aB E nn 12 fn]) (host := RX3) (c_S_writeLowestFirst l E rr n (outF row (qrounds (va_cpy (layF f fk fn ctr) m 0 0 16) 10) (layF f fk fn ctr) i) (4 * i) (((qrounds (va_cpy (layF f fk fn ctr) m 0 0 16) 10) i) + ((layF f fk fn ctr) i)) (by omega) (by omega)) (gdT m187) rfl m1 (by decide +kernel) m186 (by decide +kernel) ⟨by decide, by decide⟩ rfl rfl (Nat.le_of_ble_eq_true rfl) ⟨by decide, by decide⟩ [5] [0, 1, 2, 3, 4] rfl rfl (by decide) (by decide) (by decide) dC_fill_77 (fun _ _ => ?_)
          show J E 6 g [ob h 0 [.ref p, .ref q], aI E p 16 (layF f fk fn ctr), aI E q 16 (qrounds (va_cpy (layF f fk fn ctr) m 0 0 16) 10), aB E kk 32 fk, aB E nn 12 fn, aB E rr n (wl (outF row (qrounds (va_cpy (layF f fk fn ctr) m 0 0 16) 10) (layF f fk fn ctr) i) (4 * i) (((qrounds (va_cpy (layF f fk fn ctr) m 0 0 16) 10) i) + ((layF f fk fn ctr) i)))] [(0, .ref h), (1, .ref rr), (2, .ref kk), (3, .ref nn), (4, .int ctr), (5, .int (nI i))] 0 0 80 []
          refine j_iinc hg (kq := 5) (v := nI (i + 1)) (lv' := [(5, .int (nI (i + 1))), (0, .ref h), (1, .ref rr), (2, .ref kk), (3, .ref nn), (4, .int ctr)]) dC_fill_80 rfl (nI_add i 1) (by decide) rfl ?_
          refine j_goto hg (tgt := 50) dC_fill_83 (by decide) ?_
          refine j_pick [1, 2, 3, 4, 5, 0] (lv' := [(0, .ref h), (1, .ref rr), (2, .ref kk), (3, .ref nn), (4, .int ctr), (5, .int (nI (i + 1)))]) rfl ?_
          exact ih (i + 1) (by omega)
      exact loop2 (16) 0 (by omega)
    | succ zk ih =>
      intro i  hi
      refine j_iload hg 5 dC_fill_26 rfl ?_
      refine j_bipush hg (v := 10) dC_fill_28 (by decide) ?_
      refine j_nge_f hg (tgt := 47) i 10 rfl rfl (by omega) (by omega) (by omega) dC_fill_30 (by decide) ?_
      refine j_aload_n hg 0 dC_fill_33 rfl rfl ?_
      refine j_callV hg (n := 0) (y := yC_mixColumns) (rm := rm_C_mixColumns) (Ws := (cT yC_mixColumns cC_mixColumns 1 none)) (As := []) (rest := []) (wr := [aI E p 16 (layF f fk fn ctr), aB E kk 32 fk, aB E nn 12 fn, aB E rr n row]) 0 rfl rfl (c_C_mixColumns l E h p q (qrounds (va_cpy (layF f fk fn ctr) m 0 0 16) i)) (gdV m170 m172 ms2 m2 m173) rfl (by decide +kernel) ⟨by decide, by decide⟩ rfl rfl (Nat.le_of_ble_eq_true rfl) ⟨by decide, by decide⟩ [0, 2] [1, 3, 4, 5] rfl rfl (by decide) (by decide) (by decide) dC_fill_34 (fun _ _ => ?_)
      show J E 6 g [aI E p 16 (layF f fk fn ctr), aB E kk 32 fk, aB E nn 12 fn, aB E rr n row, ob h 0 [.ref p, .ref q], aI E q 16 (qcol (qrounds (va_cpy (layF f fk fn ctr) m 0 0 16) i))] [(0, .ref h), (1, .ref rr), (2, .ref kk), (3, .ref nn), (4, .int ctr), (5, .int (nI i))] 0 0 37 []
      refine j_aload_n hg 0 dC_fill_37 rfl rfl ?_
      refine j_callV hg (n := 0) (y := yC_mixDiagonals) (rm := rm_C_mixDiagonals) (Ws := (cT yC_mixDiagonals cC_mixDiagonals 1 none)) (As := []) (rest := []) (wr := [aI E p 16 (layF f fk fn ctr), aB E kk 32 fk, aB E nn 12 fn, aB E rr n row]) 0 rfl rfl (c_C_mixDiagonals l E h p q (qcol (qrounds (va_cpy (layF f fk fn ctr) m 0 0 16) i))) (gdV m181 m183 ms4 m2 m184) rfl (by decide +kernel) ⟨by decide, by decide⟩ rfl rfl (Nat.le_of_ble_eq_true rfl) ⟨by decide, by decide⟩ [4, 5] [0, 1, 2, 3] rfl rfl (by decide) (by decide) (by decide) dC_fill_38 (fun _ _ => ?_)
      show J E 6 g [aI E p 16 (layF f fk fn ctr), aB E kk 32 fk, aB E nn 12 fn, aB E rr n row, ob h 0 [.ref p, .ref q], aI E q 16 (qdia (qcol (qrounds (va_cpy (layF f fk fn ctr) m 0 0 16) i)))] [(0, .ref h), (1, .ref rr), (2, .ref kk), (3, .ref nn), (4, .int ctr), (5, .int (nI i))] 0 0 41 []
      refine j_iinc hg (kq := 5) (v := nI (i + 1)) (lv' := [(5, .int (nI (i + 1))), (0, .ref h), (1, .ref rr), (2, .ref kk), (3, .ref nn), (4, .int ctr)]) dC_fill_41 rfl (nI_add i 1) (by decide) rfl ?_
      refine j_goto hg (tgt := 26) dC_fill_44 (by decide) ?_
      refine j_sub [4, 0, 5, 1, 2, 3] (ws' := [ob h 0 [.ref p, .ref q], aI E p 16 (layF f fk fn ctr), aI E q 16 (qdia (qcol (qrounds (va_cpy (layF f fk fn ctr) m 0 0 16) i))), aB E kk 32 fk, aB E nn 12 fn, aB E rr n row]) rfl (by decide) ?_
      refine j_pick [1, 2, 3, 4, 5, 0] (lv' := [(0, .ref h), (1, .ref rr), (2, .ref kk), (3, .ref nn), (4, .int ctr), (5, .int (nI (i + 1)))]) rfl ?_
      exact ih (i + 1) (by omega)
  exact loop (10) 0 (by omega)

def rm_C_init : Room := { frames := 1, cells := 2, slots := 32, locals := 12 }
set_option maxHeartbeats 1000000 in
set_option maxRecDepth 100000 in
theorem c_C_init (l : Launch) (E : Ev) (h : Nat) : MC E l yC_init (cT yC_init cC_init 1 none) rm_C_init [.ref h] [ob h 0 [.null, .null]] (Nat × Nat) (fun _ => True) (fun u => none) (fun u => [ob h 0 [.ref u.1, .ref u.2], aI E u.1 16 (fun _ => 0), aI E u.2 16 (fun _ => 0)]) := by
  refine MC.of (cc := cC_init) (nL := 1) (ret := none) (by decide) rfl cT_in (Nat.le_of_ble_eq_true rfl) (fun g hg hR => ?_)
  show J E 1 g [ob h 0 [.null, .null]] [(0, .ref h)] 0 0 0 []
  refine j_aload_n hg 0 dC_init_0 rfl rfl ?_
  refine j_objInit hg m22 m15 m16 dC_init_1 (Nat.le_of_ble_eq_true rfl) (Nat.le_of_ble_eq_true rfl) ?_
  refine j_aload_n hg 0 dC_init_4 rfl rfl ?_
  refine j_bipush hg (v := 16) dC_init_5 (by decide) ?_
  refine j_newI hg 16 m31 rfl (by decide) (by decide) (by decide) dC_init_7 (fun q1 => ?_)
  show J E 1 g [ob h 0 [.null, .null], aI E q1 16 (fun _ => 0)] [(0, .ref h)] 1 16 9 [.ref q1, .ref h]
  refine j_putF hg hR (C := RX0) (T := TX0) (N := 2) (ty := (.array .int)) (ws' := [ob h 0 [.ref q1, .null], aI E q1 16 (fun _ => 0)]) inX0 tyX0 tyX0_ok nmX0 0 rfl rfl 0 (by decide) m23 rfl rfl (by decide +kernel) rfl rfl (Nat.le_of_ble_eq_true rfl) rfl dC_init_9 ?_
  refine j_aload_n hg 0 dC_init_12 rfl rfl ?_
  refine j_bipush hg (v := 16) dC_init_13 (by decide) ?_
  refine j_newI hg 16 m31 rfl (by decide) (by decide) (by decide) dC_init_15 (fun q2 => ?_)
  show J E 1 g [ob h 0 [.ref q1, .null], aI E q1 16 (fun _ => 0), aI E q2 16 (fun _ => 0)] [(0, .ref h)] 2 32 17 [.ref q2, .ref h]
  refine j_putF hg hR (C := RX0) (T := TX0) (N := 2) (ty := (.array .int)) (ws' := [ob h 0 [.ref q1, .ref q2], aI E q1 16 (fun _ => 0), aI E q2 16 (fun _ => 0)]) inX0 tyX0 tyX0_ok nmX0 0 rfl rfl 1 (by decide) m24 rfl rfl (by decide +kernel) rfl rfl (Nat.le_of_ble_eq_true rfl) rfl dC_init_17 ?_
  exact j_vret hg hR (q1, q2) trivial rfl [0, 1, 2] rfl (by decide) (by decide) (by decide) dC_init_20
