set_option maxHeartbeats 1000000 in
set_option maxRecDepth 100000 in
theorem lw_feed {E : Ev} {g : Cx} {l : Launch} {b L : Nat} {zq : Nat → Int32} (hg : Ok E 4 g l cL_law "StreamSealLaw" gT room_1) (hX : Scr g b L zq) (hL : L ≤ 3072) (i : Nat) (hi : i + 6 ≤ L) (h xt xo xk xn xb xz xm xs xp xd c1 c2 p1 p2 p3 p4 p5 p6 d1 d2 d3 d4 M mt mo mk mn mr mh mw mi mv mb ms mu mp mc mx mg ma : Nat) (k : Nx E g b i 410 h xt xo xk xn xb xz xm xs xp xd c1 c2 p1 p2 p3 p4 p5 p6 d1 d2 d3 d4 M mt mo mk mn mr mh mw mi mv mb ms mu mp mc mx mg ma) : Nx E g b i 96 h xt xo xk xn xb xz xm xs xp xd c1 c2 p1 p2 p3 p4 p5 p6 d1 d2 d3 d4 M mt mo mk mn mr mh mw mi mv mb ms mu mp mc mx mg ma := by
  intro tn on ta o fk fn sb siz sm f m fa t p wo la bl u rc tx row one v bg s su pp cc txt tg aa x2 ht ho bta bo bfk bsb bsz bsm bs btg zz
  by_cases hc : 780 < tn
  · skip
    show J E 4 g [ob h 3 [.ref xt, .int (nI tn), .ref xo, .int (nI on), .ref xk, .ref xn, .ref xb, .ref xz, .ref xm, .ref xs, .ref xp, .ref xd], aB E xt 800 ta, aB E xo 816 o, aB E xk 32 fk, aB E xn 12 fn, aB E xb 64 sb, aB E xz 16 siz, aB E xm 16 sm, ob xs 0 [.ref c1, .ref c2], aI E c1 16 f, aI E c2 16 m, ob xp 1 [.ref p1, .ref p2, .ref p3, .ref p4, .ref p5, .ref p6], aL E p1 5 fa, aL E p2 5 t, aL E p3 5 p, aL E p4 4 wo, aI E p5 4 la, aB E p6 17 bl, ob xd 2 [.ref d1, .ref d2, .ref d3, .ref d4, .int (nI u.2.2.2.2.1), .int (nI u.2.2.2.2.2)], aI E d1 8 u.1, aI E d2 64 u.2.1, aI E d3 8 u.2.2.1, aB E d4 64 u.2.2.2.1, ob M 4 [.ref mt, .int (nI tn), .ref mo, .int (nI on), .ref mk, .ref mn, .ref mr, .int (nI rc), .ref mh, .ref mw, .ref mi, .ref mv, .ref mb, .ref ms, .ref mu, .ref mp, .ref mc, .ref mx, .ref mg, .ref ma, .int (nI tx)], aB E mt 800 ta, aB E mo 816 o, aB E mk 32 fk, aB E mn 12 fn, aB E mr 1024 row, aL E mh 8 x2.1, aL E mw 64 x2.2, aB E mi 32 one, aI E mv 16 v, aI E mb 16 bg, aB E ms 64 s, aI E mu 17 su, aI E mp 35 pp, aI E mc 16 cc, aB E mx 864 txt, aB E mg 16 tg, aI E ma 19 aa] [(3, .int (nI i)), (2, .ref M), (1, .ref h), (0, .ref b)] 41 5870 96 []
    refine j_aload_n hg 2 dL_law_96 rfl rfl ?_
    refine j_aload_n hg 3 dL_law_97 rfl rfl ?_
    refine j_iload_n hg 0 dL_law_98 rfl rfl ?_
    refine j_iconst hg (v := 1) dL_law_99 (by decide) ?_
    refine j_iadd hg (v := nI (i + 1)) dL_law_100 (nI_add i 1) ?_
    refine j_sld hg hX (v := zq (i + 1)) (i + 1) rfl (by omega) (by omega) rfl dL_law_101 ?_
    refine j_aload_n hg 3 dL_law_102 rfl rfl ?_
    refine j_iload_n hg 0 dL_law_103 rfl rfl ?_
    refine j_iconst hg (v := 2) dL_law_104 (by decide) ?_
    refine j_iadd hg (v := nI (i + 2)) dL_law_105 (nI_add i 2) ?_
    refine j_sld hg hX (v := zq (i + 2)) (i + 2) rfl (by omega) (by omega) rfl dL_law_106 ?_
    refine j_aload_n hg 3 dL_law_107 rfl rfl ?_
    refine j_iload_n hg 0 dL_law_108 rfl rfl ?_
    refine j_iconst hg (v := 3) dL_law_109 (by decide) ?_
    refine j_iadd hg (v := nI (i + 3)) dL_law_110 (nI_add i 3) ?_
    refine j_sld hg hX (v := zq (i + 3)) (i + 3) rfl (by omega) (by omega) rfl dL_law_111 ?_
    refine j_aload_n hg 3 dL_law_112 rfl rfl ?_
    refine j_iload_n hg 0 dL_law_113 rfl rfl ?_
    refine j_iconst hg (v := 4) dL_law_114 (by decide) ?_
    refine j_iadd hg (v := nI (i + 4)) dL_law_115 (nI_add i 4) ?_
    refine j_sld hg hX (v := zq (i + 4)) (i + 4) rfl (by omega) (by omega) rfl dL_law_116 ?_
    refine j_aload_n hg 3 dL_law_117 rfl rfl ?_
    refine j_iload_n hg 0 dL_law_118 rfl rfl ?_
    refine j_iconst hg (v := 5) dL_law_119 (by decide) ?_
    refine j_iadd hg (v := nI (i + 5)) dL_law_120 (nI_add i 5) ?_
    refine j_sld hg hX (v := zq (i + 5)) (i + 5) rfl (by omega) (by omega) rfl dL_law_121 ?_
    refine j_callV hg (n := 5) (y := yS_feed) (rm := rm_S_feed) (Ws := (cT yS_feed cS_feed 6 (some .int))) (As := [.int (zq (i + 1)), .int (zq (i + 2)), .int (zq (i + 3)), .int (zq (i + 4)), .int (zq (i + 5))]) (rest := []) (wr := [aB E xt 800 ta, aB E xo 816 o, aB E xk 32 fk, aB E xn 12 fn, aB E xb 64 sb, aB E xz 16 siz, aB E xm 16 sm, ob xs 0 [.ref c1, .ref c2], aI E c1 16 f, aI E c2 16 m, ob xp 1 [.ref p1, .ref p2, .ref p3, .ref p4, .ref p5, .ref p6], aL E p1 5 fa, aL E p2 5 t, aL E p3 5 p, aL E p4 4 wo, aI E p5 4 la, aB E p6 17 bl, ob xd 2 [.ref d1, .ref d2, .ref d3, .ref d4, .int (nI u.2.2.2.2.1), .int (nI u.2.2.2.2.2)], aI E d1 8 u.1, aI E d2 64 u.2.1, aI E d3 8 u.2.2.1, aB E d4 64 u.2.2.2.1, ob M 4 [.ref mt, .int (nI tn), .ref mo, .int (nI on), .ref mk, .ref mn, .ref mr, .int (nI rc), .ref mh, .ref mw, .ref mi, .ref mv, .ref mb, .ref ms, .ref mu, .ref mp, .ref mc, .ref mx, .ref mg, .ref ma, .int (nI tx)], aB E mt 800 ta, aB E mo 816 o, aB E mk 32 fk, aB E mn 12 fn, aB E mr 1024 row, aL E mh 8 x2.1, aL E mw 64 x2.2, aB E mi 32 one, aI E mv 16 v, aI E mb 16 bg, aB E ms 64 s, aI E mu 17 su, aI E mp 35 pp, aI E mc 16 cc, aB E mx 864 txt, aB E mg 16 tg, aI E ma 19 aa]) 0 rfl rfl (c_S_feed_full l E h xt xo xk xn xb xz xm xs xp xd tn on (zq (i + 1)) (zq (i + 2)) (zq (i + 3)) (zq (i + 4)) (zq (i + 5)) hc (by omega)) (gdV m120 m121 m122 m1 m123) rfl (by decide +kernel) ⟨by decide, by decide⟩ rfl rfl (Nat.le_of_ble_eq_true rfl) ⟨by decide, by decide⟩ [0] [1, 2, 3, 4, 5, 6, 7, 8, 9, 10, 11, 12, 13, 14, 15, 16, 17, 18, 19, 20, 21, 22, 23, 24, 25, 26, 27, 28, 29, 30, 31, 32, 33, 34, 35, 36, 37, 38, 39, 40] rfl rfl (by decide) (by decide) (by decide) dL_law_122 (fun _ _ => ?_)
    show J E 4 g [aB E xt 800 ta, aB E xo 816 o, aB E xk 32 fk, aB E xn 12 fn, aB E xb 64 sb, aB E xz 16 siz, aB E xm 16 sm, ob xs 0 [.ref c1, .ref c2], aI E c1 16 f, aI E c2 16 m, ob xp 1 [.ref p1, .ref p2, .ref p3, .ref p4, .ref p5, .ref p6], aL E p1 5 fa, aL E p2 5 t, aL E p3 5 p, aL E p4 4 wo, aI E p5 4 la, aB E p6 17 bl, ob xd 2 [.ref d1, .ref d2, .ref d3, .ref d4, .int (nI u.2.2.2.2.1), .int (nI u.2.2.2.2.2)], aI E d1 8 u.1, aI E d2 64 u.2.1, aI E d3 8 u.2.2.1, aB E d4 64 u.2.2.2.1, ob M 4 [.ref mt, .int (nI tn), .ref mo, .int (nI on), .ref mk, .ref mn, .ref mr, .int (nI rc), .ref mh, .ref mw, .ref mi, .ref mv, .ref mb, .ref ms, .ref mu, .ref mp, .ref mc, .ref mx, .ref mg, .ref ma, .int (nI tx)], aB E mt 800 ta, aB E mo 816 o, aB E mk 32 fk, aB E mn 12 fn, aB E mr 1024 row, aL E mh 8 x2.1, aL E mw 64 x2.2, aB E mi 32 one, aI E mv 16 v, aI E mb 16 bg, aB E ms 64 s, aI E mu 17 su, aI E mp 35 pp, aI E mc 16 cc, aB E mx 864 txt, aB E mg 16 tg, aI E ma 19 aa, ob h 3 [.ref xt, .int (nI tn), .ref xo, .int (nI on), .ref xk, .ref xn, .ref xb, .ref xz, .ref xm, .ref xs, .ref xp, .ref xd]] [(3, .int (nI i)), (2, .ref M), (1, .ref h), (0, .ref b)] 41 5870 125 [.int (-3)]
    refine j_aload_n hg 1 dL_law_125 rfl rfl ?_
    refine j_aload_n hg 3 dL_law_126 rfl rfl ?_
    refine j_iload_n hg 0 dL_law_127 rfl rfl ?_
    refine j_iconst hg (v := 1) dL_law_128 (by decide) ?_
    refine j_iadd hg (v := nI (i + 1)) dL_law_129 (nI_add i 1) ?_
    refine j_sld hg hX (v := zq (i + 1)) (i + 1) rfl (by omega) (by omega) rfl dL_law_130 ?_
    refine j_aload_n hg 3 dL_law_131 rfl rfl ?_
    refine j_iload_n hg 0 dL_law_132 rfl rfl ?_
    refine j_iconst hg (v := 2) dL_law_133 (by decide) ?_
    refine j_iadd hg (v := nI (i + 2)) dL_law_134 (nI_add i 2) ?_
    refine j_sld hg hX (v := zq (i + 2)) (i + 2) rfl (by omega) (by omega) rfl dL_law_135 ?_
    refine j_aload_n hg 3 dL_law_136 rfl rfl ?_
    refine j_iload_n hg 0 dL_law_137 rfl rfl ?_
    refine j_iconst hg (v := 3) dL_law_138 (by decide) ?_
    refine j_iadd hg (v := nI (i + 3)) dL_law_139 (nI_add i 3) ?_
    refine j_sld hg hX (v := zq (i + 3)) (i + 3) rfl (by omega) (by omega) rfl dL_law_140 ?_
    refine j_aload_n hg 3 dL_law_141 rfl rfl ?_
    refine j_iload_n hg 0 dL_law_142 rfl rfl ?_
    refine j_iconst hg (v := 4) dL_law_143 (by decide) ?_
    refine j_iadd hg (v := nI (i + 4)) dL_law_144 (nI_add i 4) ?_
    refine j_sld hg hX (v := zq (i + 4)) (i + 4) rfl (by omega) (by omega) rfl dL_law_145 ?_
    refine j_aload_n hg 3 dL_law_146 rfl rfl ?_
    refine j_iload_n hg 0 dL_law_147 rfl rfl ?_
    refine j_iconst hg (v := 5) dL_law_148 (by decide) ?_
    refine j_iadd hg (v := nI (i + 5)) dL_law_149 (nI_add i 5) ?_
    refine j_sld hg hX (v := zq (i + 5)) (i + 5) rfl (by omega) (by omega) rfl dL_law_150 ?_
    refine j_callV hg (n := 5) (y := yM_feed) (rm := rm_M_feed) (Ws := (cT yM_feed cM_feed 6 (some .int))) (As := [.int (zq (i + 1)), .int (zq (i + 2)), .int (zq (i + 3)), .int (zq (i + 4)), .int (zq (i + 5))]) (rest := [.int (-3)]) (wr := [aB E xt 800 ta, aB E xo 816 o, aB E xk 32 fk, aB E xn 12 fn, aB E xb 64 sb, aB E xz 16 siz, aB E xm 16 sm, ob xs 0 [.ref c1, .ref c2], aI E c1 16 f, aI E c2 16 m, ob xp 1 [.ref p1, .ref p2, .ref p3, .ref p4, .ref p5, .ref p6], aL E p1 5 fa, aL E p2 5 t, aL E p3 5 p, aL E p4 4 wo, aI E p5 4 la, aB E p6 17 bl, ob xd 2 [.ref d1, .ref d2, .ref d3, .ref d4, .int (nI u.2.2.2.2.1), .int (nI u.2.2.2.2.2)], aI E d1 8 u.1, aI E d2 64 u.2.1, aI E d3 8 u.2.2.1, aB E d4 64 u.2.2.2.1, aB E mt 800 ta, aB E mo 816 o, aB E mk 32 fk, aB E mn 12 fn, aB E mr 1024 row, aL E mh 8 x2.1, aL E mw 64 x2.2, aB E mi 32 one, aI E mv 16 v, aI E mb 16 bg, aB E ms 64 s, aI E mu 17 su, aI E mp 35 pp, aI E mc 16 cc, aB E mx 864 txt, aB E mg 16 tg, aI E ma 19 aa, ob h 3 [.ref xt, .int (nI tn), .ref xo, .int (nI on), .ref xk, .ref xn, .ref xb, .ref xz, .ref xm, .ref xs, .ref xp, .ref xd]]) 0 rfl rfl (c_M_feed_full l E M mt mo mk mn mr mh mw mi mv mb ms mu mp mc mx mg ma tn on rc tx (zq (i + 1)) (zq (i + 2)) (zq (i + 3)) (zq (i + 4)) (zq (i + 5)) hc (by omega)) (gdV m392 m393 m394 m5 m395) rfl (by decide +kernel) ⟨by decide, by decide⟩ rfl rfl (Nat.le_of_ble_eq_true rfl) ⟨by decide, by decide⟩ [22] [0, 1, 2, 3, 4, 5, 6, 7, 8, 9, 10, 11, 12, 13, 14, 15, 16, 17, 18, 19, 20, 21, 23, 24, 25, 26, 27, 28, 29, 30, 31, 32, 33, 34, 35, 36, 37, 38, 39, 40] rfl rfl (by decide) (by decide) (by decide) dL_law_151 (fun _ _ => ?_)
    show J E 4 g [aB E xt 800 ta, aB E xo 816 o, aB E xk 32 fk, aB E xn 12 fn, aB E xb 64 sb, aB E xz 16 siz, aB E xm 16 sm, ob xs 0 [.ref c1, .ref c2], aI E c1 16 f, aI E c2 16 m, ob xp 1 [.ref p1, .ref p2, .ref p3, .ref p4, .ref p5, .ref p6], aL E p1 5 fa, aL E p2 5 t, aL E p3 5 p, aL E p4 4 wo, aI E p5 4 la, aB E p6 17 bl, ob xd 2 [.ref d1, .ref d2, .ref d3, .ref d4, .int (nI u.2.2.2.2.1), .int (nI u.2.2.2.2.2)], aI E d1 8 u.1, aI E d2 64 u.2.1, aI E d3 8 u.2.2.1, aB E d4 64 u.2.2.2.1, aB E mt 800 ta, aB E mo 816 o, aB E mk 32 fk, aB E mn 12 fn, aB E mr 1024 row, aL E mh 8 x2.1, aL E mw 64 x2.2, aB E mi 32 one, aI E mv 16 v, aI E mb 16 bg, aB E ms 64 s, aI E mu 17 su, aI E mp 35 pp, aI E mc 16 cc, aB E mx 864 txt, aB E mg 16 tg, aI E ma 19 aa, ob h 3 [.ref xt, .int (nI tn), .ref xo, .int (nI on), .ref xk, .ref xn, .ref xb, .ref xz, .ref xm, .ref xs, .ref xp, .ref xd], ob M 4 [.ref mt, .int (nI tn), .ref mo, .int (nI on), .ref mk, .ref mn, .ref mr, .int (nI rc), .ref mh, .ref mw, .ref mi, .ref mv, .ref mb, .ref ms, .ref mu, .ref mp, .ref mc, .ref mx, .ref mg, .ref ma, .int (nI tx)]] [(3, .int (nI i)), (2, .ref M), (1, .ref h), (0, .ref b)] 41 5870 154 [.int (-3), .int (-3)]
    refine j_icmp_eq hg (tgt := 410) dL_law_154 (by decide) (fun _ => ?_) (fun hc => (hc rfl).elim)
    refine j_sub [39, 0, 1, 2, 3, 4, 5, 6, 7, 8, 9, 10, 11, 12, 13, 14, 15, 16, 17, 18, 19, 20, 21, 40, 22, 23, 24, 25, 26, 27, 28, 29, 30, 31, 32, 33, 34, 35, 36, 37, 38] (ws' := [ob h 3 [.ref xt, .int (nI tn), .ref xo, .int (nI on), .ref xk, .ref xn, .ref xb, .ref xz, .ref xm, .ref xs, .ref xp, .ref xd], aB E xt 800 ta, aB E xo 816 o, aB E xk 32 fk, aB E xn 12 fn, aB E xb 64 sb, aB E xz 16 siz, aB E xm 16 sm, ob xs 0 [.ref c1, .ref c2], aI E c1 16 f, aI E c2 16 m, ob xp 1 [.ref p1, .ref p2, .ref p3, .ref p4, .ref p5, .ref p6], aL E p1 5 fa, aL E p2 5 t, aL E p3 5 p, aL E p4 4 wo, aI E p5 4 la, aB E p6 17 bl, ob xd 2 [.ref d1, .ref d2, .ref d3, .ref d4, .int (nI u.2.2.2.2.1), .int (nI u.2.2.2.2.2)], aI E d1 8 u.1, aI E d2 64 u.2.1, aI E d3 8 u.2.2.1, aB E d4 64 u.2.2.2.1, ob M 4 [.ref mt, .int (nI tn), .ref mo, .int (nI on), .ref mk, .ref mn, .ref mr, .int (nI rc), .ref mh, .ref mw, .ref mi, .ref mv, .ref mb, .ref ms, .ref mu, .ref mp, .ref mc, .ref mx, .ref mg, .ref ma, .int (nI tx)], aB E mt 800 ta, aB E mo 816 o, aB E mk 32 fk, aB E mn 12 fn, aB E mr 1024 row, aL E mh 8 x2.1, aL E mw 64 x2.2, aB E mi 32 one, aI E mv 16 v, aI E mb 16 bg, aB E ms 64 s, aI E mu 17 su, aI E mp 35 pp, aI E mc 16 cc, aB E mx 864 txt, aB E mg 16 tg, aI E ma 19 aa]) rfl (by decide) ?_
    exact k tn on ta o fk fn sb siz sm f m fa t p wo la bl u rc tx row one v bg s su pp cc txt tg aa x2 ht ho bta bo bfk bsb bsz bsm bs btg zz
  · skip
    have hM := c_M_feed_ok l E M mt mo mk mn mr mh mw mi mv mb ms mu mp mc mx mg ma tn on rc tx ta (zq (i + 1)) (zq (i + 2)) (zq (i + 3)) (zq (i + 4)) (zq (i + 5)) (by omega)
    rw [← wh_pw, ← wh_pw, ← wh_pw, ← wh_pw, ← wh_pw] at hM
    show J E 4 g [ob h 3 [.ref xt, .int (nI tn), .ref xo, .int (nI on), .ref xk, .ref xn, .ref xb, .ref xz, .ref xm, .ref xs, .ref xp, .ref xd], aB E xt 800 ta, aB E xo 816 o, aB E xk 32 fk, aB E xn 12 fn, aB E xb 64 sb, aB E xz 16 siz, aB E xm 16 sm, ob xs 0 [.ref c1, .ref c2], aI E c1 16 f, aI E c2 16 m, ob xp 1 [.ref p1, .ref p2, .ref p3, .ref p4, .ref p5, .ref p6], aL E p1 5 fa, aL E p2 5 t, aL E p3 5 p, aL E p4 4 wo, aI E p5 4 la, aB E p6 17 bl, ob xd 2 [.ref d1, .ref d2, .ref d3, .ref d4, .int (nI u.2.2.2.2.1), .int (nI u.2.2.2.2.2)], aI E d1 8 u.1, aI E d2 64 u.2.1, aI E d3 8 u.2.2.1, aB E d4 64 u.2.2.2.1, ob M 4 [.ref mt, .int (nI tn), .ref mo, .int (nI on), .ref mk, .ref mn, .ref mr, .int (nI rc), .ref mh, .ref mw, .ref mi, .ref mv, .ref mb, .ref ms, .ref mu, .ref mp, .ref mc, .ref mx, .ref mg, .ref ma, .int (nI tx)], aB E mt 800 ta, aB E mo 816 o, aB E mk 32 fk, aB E mn 12 fn, aB E mr 1024 row, aL E mh 8 x2.1, aL E mw 64 x2.2, aB E mi 32 one, aI E mv 16 v, aI E mb 16 bg, aB E ms 64 s, aI E mu 17 su, aI E mp 35 pp, aI E mc 16 cc, aB E mx 864 txt, aB E mg 16 tg, aI E ma 19 aa] [(3, .int (nI i)), (2, .ref M), (1, .ref h), (0, .ref b)] 41 5870 96 []
    refine j_aload_n hg 2 dL_law_96 rfl rfl ?_
    refine j_aload_n hg 3 dL_law_97 rfl rfl ?_
    refine j_iload_n hg 0 dL_law_98 rfl rfl ?_
    refine j_iconst hg (v := 1) dL_law_99 (by decide) ?_
    refine j_iadd hg (v := nI (i + 1)) dL_law_100 (nI_add i 1) ?_
    refine j_sld hg hX (v := zq (i + 1)) (i + 1) rfl (by omega) (by omega) rfl dL_law_101 ?_
    refine j_aload_n hg 3 dL_law_102 rfl rfl ?_
    refine j_iload_n hg 0 dL_law_103 rfl rfl ?_
    refine j_iconst hg (v := 2) dL_law_104 (by decide) ?_
    refine j_iadd hg (v := nI (i + 2)) dL_law_105 (nI_add i 2) ?_
    refine j_sld hg hX (v := zq (i + 2)) (i + 2) rfl (by omega) (by omega) rfl dL_law_106 ?_
    refine j_aload_n hg 3 dL_law_107 rfl rfl ?_
    refine j_iload_n hg 0 dL_law_108 rfl rfl ?_
    refine j_iconst hg (v := 3) dL_law_109 (by decide) ?_
    refine j_iadd hg (v := nI (i + 3)) dL_law_110 (nI_add i 3) ?_
    refine j_sld hg hX (v := zq (i + 3)) (i + 3) rfl (by omega) (by omega) rfl dL_law_111 ?_
    refine j_aload_n hg 3 dL_law_112 rfl rfl ?_
    refine j_iload_n hg 0 dL_law_113 rfl rfl ?_
    refine j_iconst hg (v := 4) dL_law_114 (by decide) ?_
    refine j_iadd hg (v := nI (i + 4)) dL_law_115 (nI_add i 4) ?_
    refine j_sld hg hX (v := zq (i + 4)) (i + 4) rfl (by omega) (by omega) rfl dL_law_116 ?_
    refine j_aload_n hg 3 dL_law_117 rfl rfl ?_
    refine j_iload_n hg 0 dL_law_118 rfl rfl ?_
    refine j_iconst hg (v := 5) dL_law_119 (by decide) ?_
    refine j_iadd hg (v := nI (i + 5)) dL_law_120 (nI_add i 5) ?_
    refine j_sld hg hX (v := zq (i + 5)) (i + 5) rfl (by omega) (by omega) rfl dL_law_121 ?_
    refine j_callV hg (n := 5) (y := yS_feed) (rm := rm_S_feed) (Ws := (cT yS_feed cS_feed 6 (some .int))) (As := [.int (zq (i + 1)), .int (zq (i + 2)), .int (zq (i + 3)), .int (zq (i + 4)), .int (zq (i + 5))]) (rest := []) (wr := [aB E xo 816 o, aB E xk 32 fk, aB E xn 12 fn, aB E xb 64 sb, aB E xz 16 siz, aB E xm 16 sm, ob xs 0 [.ref c1, .ref c2], aI E c1 16 f, aI E c2 16 m, ob xp 1 [.ref p1, .ref p2, .ref p3, .ref p4, .ref p5, .ref p6], aL E p1 5 fa, aL E p2 5 t, aL E p3 5 p, aL E p4 4 wo, aI E p5 4 la, aB E p6 17 bl, ob xd 2 [.ref d1, .ref d2, .ref d3, .ref d4, .int (nI u.2.2.2.2.1), .int (nI u.2.2.2.2.2)], aI E d1 8 u.1, aI E d2 64 u.2.1, aI E d3 8 u.2.2.1, aB E d4 64 u.2.2.2.1, ob M 4 [.ref mt, .int (nI tn), .ref mo, .int (nI on), .ref mk, .ref mn, .ref mr, .int (nI rc), .ref mh, .ref mw, .ref mi, .ref mv, .ref mb, .ref ms, .ref mu, .ref mp, .ref mc, .ref mx, .ref mg, .ref ma, .int (nI tx)], aB E mt 800 ta, aB E mo 816 o, aB E mk 32 fk, aB E mn 12 fn, aB E mr 1024 row, aL E mh 8 x2.1, aL E mw 64 x2.2, aB E mi 32 one, aI E mv 16 v, aI E mb 16 bg, aB E ms 64 s, aI E mu 17 su, aI E mp 35 pp, aI E mc 16 cc, aB E mx 864 txt, aB E mg 16 tg, aI E ma 19 aa]) 0 rfl rfl (c_S_feed_ok l E h xt xo xk xn xb xz xm xs xp xd tn on ta (zq (i + 1)) (zq (i + 2)) (zq (i + 3)) (zq (i + 4)) (zq (i + 5)) (by omega)) (gdV m120 m121 m122 m1 m123) rfl (by decide +kernel) ⟨by decide, by decide⟩ rfl rfl (Nat.le_of_ble_eq_true rfl) ⟨by decide, by decide⟩ [0, 1] [2, 3, 4, 5, 6, 7, 8, 9, 10, 11, 12, 13, 14, 15, 16, 17, 18, 19, 20, 21, 22, 23, 24, 25, 26, 27, 28, 29, 30, 31, 32, 33, 34, 35, 36, 37, 38, 39, 40] rfl rfl (by decide) (by decide) (by decide) dL_law_122 (fun _ _ => ?_)
    show J E 4 g [aB E xo 816 o, aB E xk 32 fk, aB E xn 12 fn, aB E xb 64 sb, aB E xz 16 siz, aB E xm 16 sm, ob xs 0 [.ref c1, .ref c2], aI E c1 16 f, aI E c2 16 m, ob xp 1 [.ref p1, .ref p2, .ref p3, .ref p4, .ref p5, .ref p6], aL E p1 5 fa, aL E p2 5 t, aL E p3 5 p, aL E p4 4 wo, aI E p5 4 la, aB E p6 17 bl, ob xd 2 [.ref d1, .ref d2, .ref d3, .ref d4, .int (nI u.2.2.2.2.1), .int (nI u.2.2.2.2.2)], aI E d1 8 u.1, aI E d2 64 u.2.1, aI E d3 8 u.2.2.1, aB E d4 64 u.2.2.2.1, ob M 4 [.ref mt, .int (nI tn), .ref mo, .int (nI on), .ref mk, .ref mn, .ref mr, .int (nI rc), .ref mh, .ref mw, .ref mi, .ref mv, .ref mb, .ref ms, .ref mu, .ref mp, .ref mc, .ref mx, .ref mg, .ref ma, .int (nI tx)], aB E mt 800 ta, aB E mo 816 o, aB E mk 32 fk, aB E mn 12 fn, aB E mr 1024 row, aL E mh 8 x2.1, aL E mw 64 x2.2, aB E mi 32 one, aI E mv 16 v, aI E mb 16 bg, aB E ms 64 s, aI E mu 17 su, aI E mp 35 pp, aI E mc 16 cc, aB E mx 864 txt, aB E mg 16 tg, aI E ma 19 aa, ob h 3 [.ref xt, .int (nI (tn + 20)), .ref xo, .int (nI on), .ref xk, .ref xn, .ref xb, .ref xz, .ref xm, .ref xs, .ref xp, .ref xd], aB E xt 800 (wh (wh (wh (wh (wh ta tn (zq (i + 1))) (tn + 4) (zq (i + 2))) (tn + 8) (zq (i + 3))) (tn + 12) (zq (i + 4))) (tn + 16) (zq (i + 5)))] [(3, .int (nI i)), (2, .ref M), (1, .ref h), (0, .ref b)] 41 5870 125 [.int (nI (tn + 20))]
    refine j_aload_n hg 1 dL_law_125 rfl rfl ?_
    refine j_aload_n hg 3 dL_law_126 rfl rfl ?_
    refine j_iload_n hg 0 dL_law_127 rfl rfl ?_
    refine j_iconst hg (v := 1) dL_law_128 (by decide) ?_
    refine j_iadd hg (v := nI (i + 1)) dL_law_129 (nI_add i 1) ?_
    refine j_sld hg hX (v := zq (i + 1)) (i + 1) rfl (by omega) (by omega) rfl dL_law_130 ?_
    refine j_aload_n hg 3 dL_law_131 rfl rfl ?_
    refine j_iload_n hg 0 dL_law_132 rfl rfl ?_
    refine j_iconst hg (v := 2) dL_law_133 (by decide) ?_
    refine j_iadd hg (v := nI (i + 2)) dL_law_134 (nI_add i 2) ?_
    refine j_sld hg hX (v := zq (i + 2)) (i + 2) rfl (by omega) (by omega) rfl dL_law_135 ?_
    refine j_aload_n hg 3 dL_law_136 rfl rfl ?_
    refine j_iload_n hg 0 dL_law_137 rfl rfl ?_
    refine j_iconst hg (v := 3) dL_law_138 (by decide) ?_
    refine j_iadd hg (v := nI (i + 3)) dL_law_139 (nI_add i 3) ?_
    refine j_sld hg hX (v := zq (i + 3)) (i + 3) rfl (by omega) (by omega) rfl dL_law_140 ?_
    refine j_aload_n hg 3 dL_law_141 rfl rfl ?_
    refine j_iload_n hg 0 dL_law_142 rfl rfl ?_
    refine j_iconst hg (v := 4) dL_law_143 (by decide) ?_
    refine j_iadd hg (v := nI (i + 4)) dL_law_144 (nI_add i 4) ?_
    refine j_sld hg hX (v := zq (i + 4)) (i + 4) rfl (by omega) (by omega) rfl dL_law_145 ?_
    refine j_aload_n hg 3 dL_law_146 rfl rfl ?_
    refine j_iload_n hg 0 dL_law_147 rfl rfl ?_
    refine j_iconst hg (v := 5) dL_law_148 (by decide) ?_
    refine j_iadd hg (v := nI (i + 5)) dL_law_149 (nI_add i 5) ?_
    refine j_sld hg hX (v := zq (i + 5)) (i + 5) rfl (by omega) (by omega) rfl dL_law_150 ?_
    refine j_callV hg (n := 5) (y := yM_feed) (rm := rm_M_feed) (Ws := (cT yM_feed cM_feed 6 (some .int))) (As := [.int (zq (i + 1)), .int (zq (i + 2)), .int (zq (i + 3)), .int (zq (i + 4)), .int (zq (i + 5))]) (rest := [.int (nI (tn + 20))]) (wr := [aB E xo 816 o, aB E xk 32 fk, aB E xn 12 fn, aB E xb 64 sb, aB E xz 16 siz, aB E xm 16 sm, ob xs 0 [.ref c1, .ref c2], aI E c1 16 f, aI E c2 16 m, ob xp 1 [.ref p1, .ref p2, .ref p3, .ref p4, .ref p5, .ref p6], aL E p1 5 fa, aL E p2 5 t, aL E p3 5 p, aL E p4 4 wo, aI E p5 4 la, aB E p6 17 bl, ob xd 2 [.ref d1, .ref d2, .ref d3, .ref d4, .int (nI u.2.2.2.2.1), .int (nI u.2.2.2.2.2)], aI E d1 8 u.1, aI E d2 64 u.2.1, aI E d3 8 u.2.2.1, aB E d4 64 u.2.2.2.1, aB E mo 816 o, aB E mk 32 fk, aB E mn 12 fn, aB E mr 1024 row, aL E mh 8 x2.1, aL E mw 64 x2.2, aB E mi 32 one, aI E mv 16 v, aI E mb 16 bg, aB E ms 64 s, aI E mu 17 su, aI E mp 35 pp, aI E mc 16 cc, aB E mx 864 txt, aB E mg 16 tg, aI E ma 19 aa, ob h 3 [.ref xt, .int (nI (tn + 20)), .ref xo, .int (nI on), .ref xk, .ref xn, .ref xb, .ref xz, .ref xm, .ref xs, .ref xp, .ref xd], aB E xt 800 (wh (wh (wh (wh (wh ta tn (zq (i + 1))) (tn + 4) (zq (i + 2))) (tn + 8) (zq (i + 3))) (tn + 12) (zq (i + 4))) (tn + 16) (zq (i + 5)))]) 0 rfl rfl hM (gdV m392 m393 m394 m5 m395) rfl (by decide +kernel) ⟨by decide, by decide⟩ rfl rfl (Nat.le_of_ble_eq_true rfl) ⟨by decide, by decide⟩ [21, 22] [0, 1, 2, 3, 4, 5, 6, 7, 8, 9, 10, 11, 12, 13, 14, 15, 16, 17, 18, 19, 20, 23, 24, 25, 26, 27, 28, 29, 30, 31, 32, 33, 34, 35, 36, 37, 38, 39, 40] rfl rfl (by decide) (by decide) (by decide) dL_law_151 (fun _ _ => ?_)
    show J E 4 g [aB E xo 816 o, aB E xk 32 fk, aB E xn 12 fn, aB E xb 64 sb, aB E xz 16 siz, aB E xm 16 sm, ob xs 0 [.ref c1, .ref c2], aI E c1 16 f, aI E c2 16 m, ob xp 1 [.ref p1, .ref p2, .ref p3, .ref p4, .ref p5, .ref p6], aL E p1 5 fa, aL E p2 5 t, aL E p3 5 p, aL E p4 4 wo, aI E p5 4 la, aB E p6 17 bl, ob xd 2 [.ref d1, .ref d2, .ref d3, .ref d4, .int (nI u.2.2.2.2.1), .int (nI u.2.2.2.2.2)], aI E d1 8 u.1, aI E d2 64 u.2.1, aI E d3 8 u.2.2.1, aB E d4 64 u.2.2.2.1, aB E mo 816 o, aB E mk 32 fk, aB E mn 12 fn, aB E mr 1024 row, aL E mh 8 x2.1, aL E mw 64 x2.2, aB E mi 32 one, aI E mv 16 v, aI E mb 16 bg, aB E ms 64 s, aI E mu 17 su, aI E mp 35 pp, aI E mc 16 cc, aB E mx 864 txt, aB E mg 16 tg, aI E ma 19 aa, ob h 3 [.ref xt, .int (nI (tn + 20)), .ref xo, .int (nI on), .ref xk, .ref xn, .ref xb, .ref xz, .ref xm, .ref xs, .ref xp, .ref xd], aB E xt 800 (wh (wh (wh (wh (wh ta tn (zq (i + 1))) (tn + 4) (zq (i + 2))) (tn + 8) (zq (i + 3))) (tn + 12) (zq (i + 4))) (tn + 16) (zq (i + 5))), ob M 4 [.ref mt, .int (nI (tn + 20)), .ref mo, .int (nI on), .ref mk, .ref mn, .ref mr, .int (nI rc), .ref mh, .ref mw, .ref mi, .ref mv, .ref mb, .ref ms, .ref mu, .ref mp, .ref mc, .ref mx, .ref mg, .ref ma, .int (nI tx)], aB E mt 800 (wh (wh (wh (wh (wh ta tn (zq (i + 1))) (tn + 4) (zq (i + 2))) (tn + 8) (zq (i + 3))) (tn + 12) (zq (i + 4))) (tn + 16) (zq (i + 5)))] [(3, .int (nI i)), (2, .ref M), (1, .ref h), (0, .ref b)] 41 5870 154 [.int (nI (tn + 20)), .int (nI (tn + 20))]
    refine j_icmp_eq hg (tgt := 410) dL_law_154 (by decide) (fun _ => ?_) (fun hc => (hc rfl).elim)
    refine j_sub [37, 38, 0, 1, 2, 3, 4, 5, 6, 7, 8, 9, 10, 11, 12, 13, 14, 15, 16, 17, 18, 19, 20, 39, 40, 21, 22, 23, 24, 25, 26, 27, 28, 29, 30, 31, 32, 33, 34, 35, 36] (ws' := [ob h 3 [.ref xt, .int (nI (tn + 20)), .ref xo, .int (nI on), .ref xk, .ref xn, .ref xb, .ref xz, .ref xm, .ref xs, .ref xp, .ref xd], aB E xt 800 (wh (wh (wh (wh (wh ta tn (zq (i + 1))) (tn + 4) (zq (i + 2))) (tn + 8) (zq (i + 3))) (tn + 12) (zq (i + 4))) (tn + 16) (zq (i + 5))), aB E xo 816 o, aB E xk 32 fk, aB E xn 12 fn, aB E xb 64 sb, aB E xz 16 siz, aB E xm 16 sm, ob xs 0 [.ref c1, .ref c2], aI E c1 16 f, aI E c2 16 m, ob xp 1 [.ref p1, .ref p2, .ref p3, .ref p4, .ref p5, .ref p6], aL E p1 5 fa, aL E p2 5 t, aL E p3 5 p, aL E p4 4 wo, aI E p5 4 la, aB E p6 17 bl, ob xd 2 [.ref d1, .ref d2, .ref d3, .ref d4, .int (nI u.2.2.2.2.1), .int (nI u.2.2.2.2.2)], aI E d1 8 u.1, aI E d2 64 u.2.1, aI E d3 8 u.2.2.1, aB E d4 64 u.2.2.2.1, ob M 4 [.ref mt, .int (nI (tn + 20)), .ref mo, .int (nI on), .ref mk, .ref mn, .ref mr, .int (nI rc), .ref mh, .ref mw, .ref mi, .ref mv, .ref mb, .ref ms, .ref mu, .ref mp, .ref mc, .ref mx, .ref mg, .ref ma, .int (nI tx)], aB E mt 800 (wh (wh (wh (wh (wh ta tn (zq (i + 1))) (tn + 4) (zq (i + 2))) (tn + 8) (zq (i + 3))) (tn + 12) (zq (i + 4))) (tn + 16) (zq (i + 5))), aB E mo 816 o, aB E mk 32 fk, aB E mn 12 fn, aB E mr 1024 row, aL E mh 8 x2.1, aL E mw 64 x2.2, aB E mi 32 one, aI E mv 16 v, aI E mb 16 bg, aB E ms 64 s, aI E mu 17 su, aI E mp 35 pp, aI E mc 16 cc, aB E mx 864 txt, aB E mg 16 tg, aI E ma 19 aa]) rfl (by decide) ?_
    exact k (tn + 20) on (wh (wh (wh (wh (wh ta tn (zq (i + 1))) (tn + 4) (zq (i + 2))) (tn + 8) (zq (i + 3))) (tn + 12) (zq (i + 4))) (tn + 16) (zq (i + 5))) o fk fn sb siz sm f m fa t p wo la bl u rc tx row one v bg s su pp cc txt tg aa x2 (by omega) ho bta.wh.wh.wh.wh.wh bo bfk bsb bsz bsm bs btg zz
