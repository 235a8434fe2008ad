/-! The law: its script, its switch, its end. -/
def Scr (g : Cx) (b L : Nat) (xs : Nat → Int32) : Prop :=
  match g with
  | (_, _, _, _, s, _, _, _, _, _, A, _) => va_X b L xs s s.heap ∧ b < s.heap.size ∧ ¬ A b
theorem ssF_zer {y : SS} {fk fn ta se : Nat → Int32} {hd fr sz : Nat} (h : Zer y.2.2.2.2.2.2.2.2.2.1) : Zer (ssF y fk fn ta se hd fr sz).2.2.2.2.2.2.2.2.2.1 := by
  rw [ssF_eq]
  exact ssZ_zer h
theorem sl_sb (x : CS) (fa t p wo : Nat → Int64) (la b siz sm fk fn ta : Nat → Int32) (j tn : Nat) (h1 : Byt x.1) (h2 : Byt x.2.1) : Byt (sealS x fa t p wo la b siz sm fk fn ta j tn).2.2.1 := ssF_sb (y := sy (sealC x fk fn ta j tn) fa t p wo la b siz sm) (Byt.covF h1 h2 _).2
theorem sl_sz (x : CS) (fa t p wo : Nat → Int64) (la b siz sm fk fn ta : Nat → Int32) (j tn : Nat) (h : Byt siz) : Byt (sealS x fa t p wo la b siz sm fk fn ta j tn).2.2.2.2.2.2.2.2.2.1 := ssF_sz (y := sy (sealC x fk fn ta j tn) fa t p wo la b siz sm) h
theorem sl_sm (x : CS) (fa t p wo : Nat → Int64) (la b siz sm fk fn ta : Nat → Int32) (j tn : Nat) (h : Byt sm) : Byt (sealS x fa t p wo la b siz sm fk fn ta j tn).2.2.2.2.2.2.2.2.2.2 := ssF_sm (y := sy (sealC x fk fn ta j tn) fa t p wo la b siz sm) h
theorem sl_zz (x : CS) (fa t p wo : Nat → Int64) (la b siz sm fk fn ta : Nat → Int32) (j tn : Nat) (h : Zer siz) : Zer (sealS x fa t p wo la b siz sm fk fn ta j tn).2.2.2.2.2.2.2.2.2.1 := ssF_zer (y := sy (sealC x fk fn ta j tn) fa t p wo la b siz sm) h
theorem sl_o (x : CS) (fa t p wo : Nat → Int64) (la b siz sm fk fn ta : Nat → Int32) (j tn : Nat) (h1 : Byt x.1) (h2 : Byt x.2.1) (h3 : Byt sm) : Byt (va_cpy ((sealS x fa t p wo la b siz sm fk fn ta j tn).2.2.2.2.2.2.2.2.2.2) (sealC x fk fn ta j tn).1 0 (tn - j) 16) := Byt.cpy (sl_sm x fa t p wo la b siz sm fk fn ta j tn h3) (Byt.covF h1 h2 _).1
theorem op_sb (x : CS) (fa t p wo : Nat → Int64) (la b siz sm fk fn ta : Nat → Int32) (j tn : Nat) (h2 : Byt x.2.1) : Byt (openS x fa t p wo la b siz sm fk fn ta j tn).2.2.1 := ssF_sb (y := sy x fa t p wo la b siz sm) h2
theorem op_sz (x : CS) (fa t p wo : Nat → Int64) (la b siz sm fk fn ta : Nat → Int32) (j tn : Nat) (h : Byt siz) : Byt (openS x fa t p wo la b siz sm fk fn ta j tn).2.2.2.2.2.2.2.2.2.1 := ssF_sz (y := sy x fa t p wo la b siz sm) h
theorem op_sm (x : CS) (fa t p wo : Nat → Int64) (la b siz sm fk fn ta : Nat → Int32) (j tn : Nat) (h : Byt sm) : Byt (openS x fa t p wo la b siz sm fk fn ta j tn).2.2.2.2.2.2.2.2.2.2 := ssF_sm (y := sy x fa t p wo la b siz sm) h
theorem op_zz (x : CS) (fa t p wo : Nat → Int64) (la b siz sm fk fn ta : Nat → Int32) (j tn : Nat) (h : Zer siz) : Zer (openS x fa t p wo la b siz sm fk fn ta j tn).2.2.2.2.2.2.2.2.2.1 := ssF_zer (y := sy x fa t p wo la b siz sm) h
theorem op_o (x : CS) (fa t p wo : Nat → Int64) (la b siz sm fk fn ta : Nat → Int32) (j tn : Nat) (h1 : Byt x.1) (h2 : Byt x.2.1) : Byt (openC x fa t p wo la b siz sm fk fn ta j tn).1 ∧ Byt (openC x fa t p wo la b siz sm fk fn ta j tn).2.1 := Byt.covF (x := (x.1, (openS x fa t p wo la b siz sm fk fn ta j tn).2.2.1, (openS x fa t p wo la b siz sm fk fn ta j tn).1, (openS x fa t p wo la b siz sm fk fn ta j tn).2.1)) h1 (op_sb x fa t p wo la b siz sm fk fn ta j tn h2) _
theorem slm_s (x : MCS) (y : S5) (fk fn ta txt : Nat → Int32) (j tn : Nat) (h1 : Byt x.1) (h2 : Byt x.2.2.2) : Byt (slC x fk fn ta j tn).2.2.2 := Byt.msF (byt_mcov h1 h2 _).2
theorem slm_t (x : MCS) (y : S5) (fk fn ta txt : Nat → Int32) (j tn : Nat) (h : Byt y.2.2.2.2) : Byt (slY x y fk fn ta txt j tn).2.2.2.2 := smF_tg h
theorem opm_s (x : MCS) (y : S5) (fk fn ta txt : Nat → Int32) (j tn : Nat) (h2 : Byt x.2.2.2) : Byt (opC x fk fn).2.2.2 := Byt.msF h2
theorem opm_d (x : MCS) (y : S5) (fk fn ta txt : Nat → Int32) (j tn : Nat) (h1 : Byt x.1) (h2 : Byt x.2.2.2) : Byt (opD x fk fn ta j tn).2.2.2 := (byt_mcov (x := opC x fk fn) h1 (opm_s x y fk fn ta txt j tn h2) _).2
theorem opm_t (x : MCS) (y : S5) (fk fn ta txt : Nat → Int32) (j tn : Nat) (h : Byt y.2.2.2.2) : Byt (opY x y fk fn ta txt j tn).2.2.2.2 := smF_tg h
def Lg (g : Cx) (b : Nat) : Prop :=
  match g with
  | (_, _, _, _, s, _, args, below, meth, _, A, Q) => args = #[Value.ref b] ∧ A = (fun q : Nat => s.heap.size ≤ q) ∧ Q = lw_Z below #[Value.ref b] s ∧ meth.sig.returnType = ret
section LW
variable {E : Ev} {nL : Nat} {g : Cx} {l0 : Launch} {cc : ByteArray} {own : String} {Ts : List Cond} {R0 : Room} {ws : va_W} {lv : List (Nat × Value)} {cells slots pc : Nat} {st : List Value}
theorem j_sld (hg : Ok E nL g l0 cc own Ts R0) {b L : Nat} {xs : Nat → Int32} (hX : Scr g b L xs) {i v : Int32} (j : Nat) (hi : i = nI j) (hj : j < L) (hL : L < 2147483648) (hv : xs j = v) (hd : decode cc pc = .ok (.iaload, 1)) (k : J E nL g ws lv cells slots (pc + 1) (.int v :: st)) : J E nL g ws lv cells slots pc (.int i :: .ref b :: st) := by
  obtain ⟨p, l, e, R, s, m, args, below, meth, c, A, Q⟩ := g
  subst hi hv
  have e : (nI j).toNatClampNeg = j := nI_clamp (by omega)
  exact fun H locs ls hP hD hS hl => va_sld hg.1 hg.2.1 hX.1 hX.2.1 hX.2.2 hS (vp_in_nI hj hL) hd (by rw [e]; exact k H locs ls hP hD hS hl)
theorem j_slen (hg : Ok E nL g l0 cc own Ts R0) {b L : Nat} {xs : Nat → Int32} (hX : Scr g b L xs) (hd : decode cc pc = .ok (.arraylength, 1)) (k : J E nL g ws lv cells slots (pc + 1) (.int (nI L) :: st)) : J E nL g ws lv cells slots pc (.ref b :: st) := by
  obtain ⟨p, l, e, R, s, m, args, below, meth, c, A, Q⟩ := g
  exact fun H locs ls hP hD hS hl => va_slen hg.1 hg.2.1 hX.1 hX.2.1 hX.2.2 hS hd (k H locs ls hP hD hS hl)
theorem j_tabIn (hg : Ok E nL g l0 cc own Ts R0) {dflt lo hi : Int} {offs : Array Int} {len : Nat} {x : Int32} {off : Int} {tgt : Nat} (hd : decode cc pc = .ok (.tableswitch dflt lo hi offs, len)) (h1 : ¬ x.toInt < lo) (h2 : ¬ hi < x.toInt) (ho : offs[(x.toInt - lo).toNat]? = some off) (ht : (pc : Int) + off = (tgt : Int)) (k : J E nL g ws lv cells slots tgt st) : J E nL g ws lv cells slots pc (.int x :: st) := by
  obtain ⟨p, l, e, R, s, m, args, below, meth, c, A, Q⟩ := g
  exact fun H locs ls hP hD hS hl => lv_tableIn hg.1 hg.2.1 hd h1 h2 ho ht (k H locs ls hP hD hS hl)
theorem j_tabOut (hg : Ok E nL g l0 cc own Ts R0) {dflt lo hi : Int} {offs : Array Int} {len : Nat} {x : Int32} {tgt : Nat} (hd : decode cc pc = .ok (.tableswitch dflt lo hi offs, len)) (h : x.toInt < lo ∨ hi < x.toInt) (ht : (pc : Int) + dflt = (tgt : Int)) (k : J E nL g ws lv cells slots tgt st) : J E nL g ws lv cells slots pc (.int x :: st) := by
  obtain ⟨p, l, e, R, s, m, args, below, meth, c, A, Q⟩ := g
  exact fun H locs ls hP hD hS hl => lv_tableOut hg.1 hg.2.1 hd h ht (k H locs ls hP hD hS hl)
theorem j_lwret (hg : Ok E 4 g l0 cL_law "StreamSealLaw" gT room_1) {b : Nat} (hq : Lg g b) : J E 4 g ws lv 41 5870 417 [.int 1] := by
  obtain ⟨p, l, e, R, s, m, args, below, meth, c, A, Q⟩ := g
  obtain ⟨h1, h2, h3, h4⟩ := hq
  have hR : R = room_1 := hg.2.2.2.2.2.2.2.2.1
  subst h1 h2 h3 hR
  exact fun H locs ls hP hD hS hl => va_forget (fun q hq => hS.2.2 q hq) (lw_ret hg.1 hg.2.1 h4 hg.2.2.2.2.2.2.2.2.2.1 dL_law_417)
end LW

/-- from here on, whatever the two hold, as long as they hold the same TAPE, OUT, KEY and NONCE -/
def Nx (E : Ev) (g : Cx) (b i pc : Nat) (h xt xo xk xn xb xz xm xs xp xd c1 c2 p1 p2 p3 p4 p5 p6 d1 d2 d3 d4 M mt mo mk mn mr mh mw mi mv mb ms mu mp mc mx mg ma : Nat) : Prop := ∀ (tn : Nat) (on : Nat) (ta : Nat → Int32) (o : Nat → Int32) (fk : Nat → Int32) (fn : Nat → Int32) (sb : Nat → Int32) (siz : Nat → Int32) (sm : Nat → Int32) (f : Nat → Int32) (m : Nat → Int32) (fa : Nat → Int64) (t : Nat → Int64) (p : Nat → Int64) (wo : Nat → Int64) (la : Nat → Int32) (bl : Nat → Int32) (u : HS) (rc : Nat) (tx : Nat) (row : Nat → Int32) (one : Nat → Int32) (v : Nat → Int32) (bg : Nat → Int32) (s : Nat → Int32) (su : Nat → Int32) (pp : Nat → Int32) (cc : Nat → Int32) (txt : Nat → Int32) (tg : Nat → Int32) (aa : Nat → Int32) (x2 : H2), tn ≤ 800 → on ≤ 816 → Byt ta → Byt o → Byt fk → Byt sb → Byt siz → Byt sm → Byt s → Byt tg → Zer siz → J E 4 g [ob h 3 [.ref xt, .int (nI tn), .ref xo, .int (nI on), .ref xk, .ref xn, .ref xb, .ref xz, .ref xm, .ref xs, .ref xp, .ref xd], aB E xt 800 ta, aB E xo 816 o, aB E xk 32 fk, aB E xn 12 fn, aB E xb 64 sb, aB E xz 16 siz, aB E xm 16 sm, ob xs 0 [.ref c1, .ref c2], aI E c1 16 f, aI E c2 16 m, ob xp 1 [.ref p1, .ref p2, .ref p3, .ref p4, .ref p5, .ref p6], aL E p1 5 fa, aL E p2 5 t, aL E p3 5 p, aL E p4 4 wo, aI E p5 4 la, aB E p6 17 bl, ob xd 2 [.ref d1, .ref d2, .ref d3, .ref d4, .int (nI u.2.2.2.2.1), .int (nI u.2.2.2.2.2)], aI E d1 8 u.1, aI E d2 64 u.2.1, aI E d3 8 u.2.2.1, aB E d4 64 u.2.2.2.1, ob M 4 [.ref mt, .int (nI tn), .ref mo, .int (nI on), .ref mk, .ref mn, .ref mr, .int (nI rc), .ref mh, .ref mw, .ref mi, .ref mv, .ref mb, .ref ms, .ref mu, .ref mp, .ref mc, .ref mx, .ref mg, .ref ma, .int (nI tx)], aB E mt 800 ta, aB E mo 816 o, aB E mk 32 fk, aB E mn 12 fn, aB E mr 1024 row, aL E mh 8 x2.1, aL E mw 64 x2.2, aB E mi 32 one, aI E mv 16 v, aI E mb 16 bg, aB E ms 64 s, aI E mu 17 su, aI E mp 35 pp, aI E mc 16 cc, aB E mx 864 txt, aB E mg 16 tg, aI E ma 19 aa] [(3, .int (nI i)), (2, .ref M), (1, .ref h), (0, .ref b)] 41 5870 pc []
