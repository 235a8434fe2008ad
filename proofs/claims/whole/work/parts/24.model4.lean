/-! The reference: text, seals, cover, and its public methods. -/
theorem and15 {a : Nat} (h : a < 2147483648) : nI a &&& 15 = nI (a % 16) := pk_andN (by omega) 4 (by decide)
def txF (txt src : Nat → Int32) (t0 k n : Nat) : Nat → Nat → Int32
  | 0 => txt
  | i + 1 => upd (txF txt src t0 k n i) (t0 + i) (if i < n then src (k + i) else 0)
theorem txn {src : Nat → Int32} (h : Byt src) (i n k : Nat) : vp_nar .byte (if i < n then src (k + i) else 0) = (if i < n then src (k + i) else 0) := by
  split
  · exact h.nar _
  · decide
def slN (n m : Nat) : Nat := (n + 15) / 16 * 16 + (m + 15) / 16 * 16
def slZ (txt ta se : Nat → Int32) (n k m : Nat) : Nat → Int32 := zrF (txF (txF txt ta 0 0 n ((n + 15) / 16 * 16)) se ((n + 15) / 16 * 16) k m ((m + 15) / 16 * 16)) (slN n m) 16
def slT (txt ta se : Nat → Int32) (n k m : Nat) : Nat → Int32 := upd (upd (upd (upd (slZ txt ta se n k m) (slN n m) (sB (nI n))) (slN n m + 1) (sB (shr (nI n) 8))) (slN n m + 8) (sB (nI m))) (slN n m + 9) (sB (shr (nI m) 8))
/-- to, v, begin, stream -/
abbrev MCS : Type := (Nat → Int32) × (Nat → Int32) × (Nat → Int32) × (Nat → Int32)
def mcv0 (x : MCS) (fk fn ta : Nat → Int32) (f i : Nat) : MCS :=
  if i % 64 = 0 then (upd x.1 i (sB (ta (f + i) ^^^ msF x.2.2.2 x.2.2.1 x.2.1 fk fn (nI (1 + i / 64)) (i % 64))), mvF x.2.2.1 x.2.1 fk fn (nI (1 + i / 64)), layF x.2.2.1 fk fn (nI (1 + i / 64)), msF x.2.2.2 x.2.2.1 x.2.1 fk fn (nI (1 + i / 64)))
  else (upd x.1 i (sB (ta (f + i) ^^^ x.2.2.2 (i % 64))), x.2.1, x.2.2.1, x.2.2.2)
noncomputable def mcvF : MCS → (Nat → Int32) → (Nat → Int32) → (Nat → Int32) → Nat → Nat → MCS := Classical.choose (⟨mcv0, rfl⟩ : ∃ F : MCS → (Nat → Int32) → (Nat → Int32) → (Nat → Int32) → Nat → Nat → MCS, F = mcv0)
theorem mcvF_eq : mcvF = mcv0 := Classical.choose_spec (⟨mcv0, rfl⟩ : ∃ F : MCS → (Nat → Int32) → (Nat → Int32) → (Nat → Int32) → Nat → Nat → MCS, F = mcv0)
noncomputable def mcov (x : MCS) (fk fn ta : Nat → Int32) (f : Nat) : Nat → MCS
  | 0 => x
  | i + 1 => mcvF (mcov x fk fn ta f i) fk fn ta f i
def pw (f : Nat → Int32) (k : Nat) (x : Int32) : Nat → Int32 := upd (upd (upd (upd f k (sB (shr x 24))) (k + 1) (sB (shr x 16))) (k + 2) (sB (shr x 8))) (k + 3) (sB (shr x 0))
def cpT (t o : Nat → Int32) (k : Nat) : Nat → Nat → Int32
  | 0 => t
  | i + 1 => upd (cpT t o k i) (k + i) (o i)
def cp0 (t o : Nat → Int32) : Nat → Nat → Int32
  | 0 => t
  | i + 1 => upd (cp0 t o i) i (o i)
def no1 (f : Nat → Int32) (a : Int32) : Nat → Nat → Int32
  | 0 => f
  | k + 1 => upd (no1 f a k) k (sB (shr a (nI (24 - 8 * k))))
def no2 (f : Nat → Int32) (b : Int64) : Nat → Nat → Int32
  | 0 => f
  | k + 1 => upd (no2 f b k) (4 + k) (sB (lshr b (nI (56 - 8 * k))).toInt32)
def mkF (row fk : Nat → Int32) (mk : Int32) : Nat → Nat → Int32
  | 0 => row
  | i + 1 => upd (mkF row fk mk i) (0 + i) (sB ((if i < 32 then fk i else 0) ^^^ mk))

def rm_M_text : Room := { frames := 0, cells := 0, slots := 0, locals := 0 }
set_option maxHeartbeats 1000000 in
set_option maxRecDepth 100000 in
theorem c_M_text (l : Launch) (E : Ev) (h mt mo mk mn mr mh mw mi mv mb ms mu mp mc mx mg ma : Nat) (tn on rc tx : Nat) (rr n : Nat) (txt src : Nat → Int32) (k m : Nat) (hb : Byt src) (h0 : tx % 16 = 0) (h1 : tx + (m + 15) / 16 * 16 ≤ 864) (h2 : k + m ≤ n) (h3 : n < 1000000) : MC E l yM_text (cT yM_text cM_text 5 none) rm_M_text [.ref h, .ref rr, .int (nI k), .int (nI m)] [ob h 4 [.ref mt, .int (nI tn), .ref mo, .int (nI on), .ref mk, .ref mn, .ref mr, .int (nI rc), .ref mh, .ref mw, .ref mi, .ref mv, .ref mb, .ref ms, .ref mu, .ref mp, .ref mc, .ref mx, .ref mg, .ref ma, .int (nI tx)], aB E mx 864 txt, aB E rr n src] Unit (fun _ => True) (fun _ => none) (fun _ => [ob h 4 [.ref mt, .int (nI tn), .ref mo, .int (nI on), .ref mk, .ref mn, .ref mr, .int (nI rc), .ref mh, .ref mw, .ref mi, .ref mv, .ref mb, .ref ms, .ref mu, .ref mp, .ref mc, .ref mx, .ref mg, .ref ma, .int (nI (tx + ((m + 15) / 16 * 16)))], aB E mx 864 (txF txt src tx k m ((m + 15) / 16 * 16)), aB E rr n src]) := by
  refine MC.of (cc := cM_text) (nL := 5) (ret := none) (by decide) rfl cT_in (Nat.le_of_ble_eq_true rfl) (fun g hg hR => ?_)
  show J E 5 g [ob h 4 [.ref mt, .int (nI tn), .ref mo, .int (nI on), .ref mk, .ref mn, .ref mr, .int (nI rc), .ref mh, .ref mw, .ref mi, .ref mv, .ref mb, .ref ms, .ref mu, .ref mp, .ref mc, .ref mx, .ref mg, .ref ma, .int (nI tx)], aB E mx 864 txt, aB E rr n src] [(0, .ref h), (1, .ref rr), (2, .int (nI k)), (3, .int (nI m))] 0 0 0 []
  refine j_iconst hg (v := 0) dM_text_0 (by decide) ?_
  refine j_istore hg (lv' := [(4, .int 0), (0, .ref h), (1, .ref rr), (2, .int (nI k)), (3, .int (nI m))]) dM_text_1 (by decide) rfl ?_
  refine j_pick [1, 2, 3, 4, 0] (lv' := [(0, .ref h), (1, .ref rr), (2, .int (nI k)), (3, .int (nI m)), (4, .int 0)]) rfl ?_
  have loop : ∀ (zk i : Nat), i + zk = (m + 15) / 16 * 16 → J E 5 g [ob h 4 [.ref mt, .int (nI tn), .ref mo, .int (nI on), .ref mk, .ref mn, .ref mr, .int (nI rc), .ref mh, .ref mw, .ref mi, .ref mv, .ref mb, .ref ms, .ref mu, .ref mp, .ref mc, .ref mx, .ref mg, .ref ma, .int (nI (tx + i))], aB E mx 864 (txF txt src tx k m i), aB E rr n src] [(0, .ref h), (1, .ref rr), (2, .int (nI k)), (3, .int (nI m)), (4, .int (nI i))] 0 0 3 [] := by
    intro zk
    induction zk with
    | zero =>
      intro i  hi
      obtain rfl : (m + 15) / 16 * 16 = i := by omega
      refine j_iload hg 4 dM_text_3 rfl ?_
      refine j_iload_n hg 3 dM_text_5 rfl rfl ?_
      refine j_nlt_f hg (tgt := 19) ((m + 15) / 16 * 16) m rfl rfl (by omega) (by omega) (by omega) dM_text_6 (by decide) ?_
      refine j_aload_n hg 0 dM_text_9 rfl rfl ?_
      refine j_get hg (C := RX4) (T := TX4) (N := 21) inX4 0 rfl rfl 20 (by decide) m348 rfl dM_text_10 ?_
      refine j_bipush hg (v := 15) dM_text_13 (by decide) ?_
      refine j_iand hg (v := (nI (tx + ((m + 15) / 16 * 16))) &&& 15) dM_text_15 rfl ?_
      refine j_topi (and15 (a := tx + (m + 15) / 16 * 16) (by omega)) ?_
      refine j_zeq_t hg (tgt := 60) ((tx + (m + 15) / 16 * 16) % 16) rfl (by omega) (by omega) dM_text_16 (by decide) ?_
      exact j_vret hg hR () trivial rfl [0, 1, 2] rfl (by decide) (by decide) (by decide) dM_text_60
    | succ zk ih =>
      intro i  hi
      rcases Nat.lt_or_ge i m with hc | hc
      · skip
        refine j_iload hg 4 dM_text_3 rfl ?_
        refine j_iload_n hg 3 dM_text_5 rfl rfl ?_
        refine j_nlt_t hg (tgt := 19) i m rfl rfl (by omega) (by omega) (by omega) dM_text_6 (by decide) ?_
        refine j_aload_n hg 0 dM_text_19 rfl rfl ?_
        refine j_get hg (C := RX4) (T := TX4) (N := 21) inX4 0 rfl rfl 17 (by decide) m345 rfl dM_text_20 ?_
        refine j_aload_n hg 0 dM_text_23 rfl rfl ?_
        refine j_get hg (C := RX4) (T := TX4) (N := 21) inX4 0 rfl rfl 20 (by decide) m348 rfl dM_text_24 ?_
        refine j_iload hg 4 dM_text_27 rfl ?_
        refine j_iload_n hg 3 dM_text_29 rfl rfl ?_
        refine j_nge_f hg (tgt := 42) i m rfl rfl (by omega) (by omega) (by omega) dM_text_30 (by decide) ?_
        refine j_aload_n hg 1 dM_text_33 rfl rfl ?_
        refine j_iload_n hg 2 dM_text_34 rfl rfl ?_
        refine j_iload hg 4 dM_text_35 rfl ?_
        refine j_iadd hg (v := nI (k + i)) dM_text_37 (nI_add k i) ?_
        refine j_bald hg (v := src (k + i)) 2 (k + i) rfl rfl (by omega) (by omega) rfl dM_text_38 ?_
        refine j_goto hg (tgt := 43) dM_text_39 (by decide) ?_
        refine j_topi (show src (k + i) = (if i < m then src (k + i) else 0) from (if_pos hc).symm) ?_
        refine j_bast hg (ws' := [ob h 4 [.ref mt, .int (nI tn), .ref mo, .int (nI on), .ref mk, .ref mn, .ref mr, .int (nI rc), .ref mh, .ref mw, .ref mi, .ref mv, .ref mb, .ref ms, .ref mu, .ref mp, .ref mc, .ref mx, .ref mg, .ref ma, .int (nI (tx + i))], aB E mx 864 (upd (txF txt src tx k m i) (tx + i) (if i < m then src (k + i) else 0)), aB E rr n src]) 1 (tx + i) rfl rfl (by omega) (by omega) (txn hb i m k) rfl dM_text_43 ?_
        refine j_aload_n hg 0 dM_text_44 rfl rfl ?_
        refine j_dup hg dM_text_45 rfl ?_
        refine j_get hg (C := RX4) (T := TX4) (N := 21) inX4 0 rfl rfl 20 (by decide) m348 rfl dM_text_46 ?_
        refine j_iconst hg (v := 1) dM_text_49 (by decide) ?_
        refine j_iadd hg (v := nI (tx + i + 1)) dM_text_50 (nI_add (tx + i) 1) ?_
        refine j_put hg (C := RX4) (T := TX4) (N := 21) (ty := .int) (ws' := [ob h 4 [.ref mt, .int (nI tn), .ref mo, .int (nI on), .ref mk, .ref mn, .ref mr, .int (nI rc), .ref mh, .ref mw, .ref mi, .ref mv, .ref mb, .ref ms, .ref mu, .ref mp, .ref mc, .ref mx, .ref mg, .ref ma, .int (nI (tx + i + 1))], aB E mx 864 (upd (txF txt src tx k m i) (tx + i) (if i < m then src (k + i) else 0)), aB E rr n src]) inX4 tyX4 tyX4_ok nmX4 0 rfl rfl 20 (by decide) m348 rfl (by decide +kernel) rfl rfl (Nat.le_of_ble_eq_true rfl) rfl dM_text_51 ?_
        refine j_iinc hg (kq := 4) (v := nI (i + 1)) (lv' := [(4, .int (nI (i + 1))), (0, .ref h), (1, .ref rr), (2, .int (nI k)), (3, .int (nI m))]) dM_text_54 rfl (nI_add i 1) (by decide) rfl ?_
        refine j_goto hg (tgt := 3) dM_text_57 (by decide) ?_
        refine j_pick [1, 2, 3, 4, 0] (lv' := [(0, .ref h), (1, .ref rr), (2, .int (nI k)), (3, .int (nI m)), (4, .int (nI (i + 1)))]) rfl ?_
        exact ih (i + 1) (by omega)
      · skip
        refine j_iload hg 4 dM_text_3 rfl ?_
        refine j_iload_n hg 3 dM_text_5 rfl rfl ?_
        refine j_nlt_f hg (tgt := 19) i m rfl rfl (by omega) (by omega) (by omega) dM_text_6 (by decide) ?_
        refine j_aload_n hg 0 dM_text_9 rfl rfl ?_
        refine j_get hg (C := RX4) (T := TX4) (N := 21) inX4 0 rfl rfl 20 (by decide) m348 rfl dM_text_10 ?_
        refine j_bipush hg (v := 15) dM_text_13 (by decide) ?_
        refine j_iand hg (v := (nI (tx + i)) &&& 15) dM_text_15 rfl ?_
        refine j_topi (and15 (a := tx + i) (by omega)) ?_
        refine j_zeq_f hg (tgt := 60) ((tx + i) % 16) rfl (by omega) (by omega) dM_text_16 (by decide) ?_
        refine j_aload_n hg 0 dM_text_19 rfl rfl ?_
        refine j_get hg (C := RX4) (T := TX4) (N := 21) inX4 0 rfl rfl 17 (by decide) m345 rfl dM_text_20 ?_
        refine j_aload_n hg 0 dM_text_23 rfl rfl ?_
        refine j_get hg (C := RX4) (T := TX4) (N := 21) inX4 0 rfl rfl 20 (by decide) m348 rfl dM_text_24 ?_
        refine j_iload hg 4 dM_text_27 rfl ?_
        refine j_iload_n hg 3 dM_text_29 rfl rfl ?_
        refine j_nge_t hg (tgt := 42) i m rfl rfl (by omega) (by omega) (by omega) dM_text_30 (by decide) ?_
        refine j_iconst hg (v := 0) dM_text_42 (by decide) ?_
        refine j_topi (show (0 : Int32) = (if i < m then src (k + i) else 0) from (if_neg (by omega)).symm) ?_
        refine j_bast hg (ws' := [ob h 4 [.ref mt, .int (nI tn), .ref mo, .int (nI on), .ref mk, .ref mn, .ref mr, .int (nI rc), .ref mh, .ref mw, .ref mi, .ref mv, .ref mb, .ref ms, .ref mu, .ref mp, .ref mc, .ref mx, .ref mg, .ref ma, .int (nI (tx + i))], aB E mx 864 (upd (txF txt src tx k m i) (tx + i) (if i < m then src (k + i) else 0)), aB E rr n src]) 1 (tx + i) rfl rfl (by omega) (by omega) (txn hb i m k) rfl dM_text_43 ?_
        refine j_aload_n hg 0 dM_text_44 rfl rfl ?_
        refine j_dup hg dM_text_45 rfl ?_
        refine j_get hg (C := RX4) (T := TX4) (N := 21) inX4 0 rfl rfl 20 (by decide) m348 rfl dM_text_46 ?_
        refine j_iconst hg (v := 1) dM_text_49 (by decide) ?_
        refine j_iadd hg (v := nI (tx + i + 1)) dM_text_50 (nI_add (tx + i) 1) ?_
        refine j_put hg (C := RX4) (T := TX4) (N := 21) (ty := .int) (ws' := [ob h 4 [.ref mt, .int (nI tn), .ref mo, .int (nI on), .ref mk, .ref mn, .ref mr, .int (nI rc), .ref mh, .ref mw, .ref mi, .ref mv, .ref mb, .ref ms, .ref mu, .ref mp, .ref mc, .ref mx, .ref mg, .ref ma, .int (nI (tx + i + 1))], aB E mx 864 (upd (txF txt src tx k m i) (tx + i) (if i < m then src (k + i) else 0)), aB E rr n src]) inX4 tyX4 tyX4_ok nmX4 0 rfl rfl 20 (by decide) m348 rfl (by decide +kernel) rfl rfl (Nat.le_of_ble_eq_true rfl) rfl dM_text_51 ?_
        refine j_iinc hg (kq := 4) (v := nI (i + 1)) (lv' := [(4, .int (nI (i + 1))), (0, .ref h), (1, .ref rr), (2, .int (nI k)), (3, .int (nI m))]) dM_text_54 rfl (nI_add i 1) (by decide) rfl ?_
        refine j_goto hg (tgt := 3) dM_text_57 (by decide) ?_
        refine j_pick [1, 2, 3, 4, 0] (lv' := [(0, .ref h), (1, .ref rr), (2, .int (nI k)), (3, .int (nI m)), (4, .int (nI (i + 1)))]) rfl ?_
        exact ih (i + 1) (by omega)
  exact loop ((m + 15) / 16 * 16) 0 (by omega)

def rm_M_seals : Room := { frames := 3, cells := 0, slots := 0, locals := 69 }
set_option maxHeartbeats 1000000 in
set_option maxRecDepth 100000 in
theorem c_M_seals_o (l : Launch) (E : Ev) (h mt mo mk mn mr mh mw mi mv mb ms mu mp mc mx mg ma : Nat) (tn on rc tx : Nat) (fk fn v b s ta o txt : Nat → Int32) (y : S5) (hd k m : Nat) (hta : Byt ta) (ho : Byt o) (h1 : hd + m ≤ 800) (h2 : k + m ≤ 800) : MC E l yM_seals (cT yM_seals cM_seals 6 none) rm_M_seals [.ref h, .int (nI hd), .ref mo, .int (nI k), .int (nI m)] [ob h 4 [.ref mt, .int (nI tn), .ref mo, .int (nI on), .ref mk, .ref mn, .ref mr, .int (nI rc), .ref mh, .ref mw, .ref mi, .ref mv, .ref mb, .ref ms, .ref mu, .ref mp, .ref mc, .ref mx, .ref mg, .ref ma, .int (nI tx)], aB E mt 800 ta, aB E mo 816 o, aB E mk 32 fk, aB E mn 12 fn, aI E mv 16 v, aI E mb 16 b, aB E ms 64 s, aI E mc 16 y.1, aI E mu 17 y.2.1, aI E mp 35 y.2.2.1, aI E ma 19 y.2.2.2.1, aB E mg 16 y.2.2.2.2, aB E mx 864 txt] Unit (fun _ => True) (fun _ => none) (fun _ => [ob h 4 [.ref mt, .int (nI tn), .ref mo, .int (nI on), .ref mk, .ref mn, .ref mr, .int (nI rc), .ref mh, .ref mw, .ref mi, .ref mv, .ref mb, .ref ms, .ref mu, .ref mp, .ref mc, .ref mx, .ref mg, .ref ma, .int (nI (slN hd m))], aB E mt 800 ta, aB E mo 816 o, aB E mk 32 fk, aB E mn 12 fn, aI E mv 16 (mvF b v fk fn 0), aI E mb 16 (layF b fk fn 0), aB E ms 64 (msF s b v fk fn 0), aI E mc 16 ((smF y (msF s b v fk fn 0) (slT txt ta o hd k m) (slN hd m + 16)).1), aI E mu 17 ((smF y (msF s b v fk fn 0) (slT txt ta o hd k m) (slN hd m + 16)).2.1), aI E mp 35 ((smF y (msF s b v fk fn 0) (slT txt ta o hd k m) (slN hd m + 16)).2.2.1), aI E ma 19 ((smF y (msF s b v fk fn 0) (slT txt ta o hd k m) (slN hd m + 16)).2.2.2.1), aB E mg 16 ((smF y (msF s b v fk fn 0) (slT txt ta o hd k m) (slN hd m + 16)).2.2.2.2), aB E mx 864 (slT txt ta o hd k m)]) := by
  refine MC.of (cc := cM_seals) (nL := 6) (ret := none) (by decide) rfl cT_in (Nat.le_of_ble_eq_true rfl) (fun g hg hR => ?_)
  show J E 6 g [ob h 4 [.ref mt, .int (nI tn), .ref mo, .int (nI on), .ref mk, .ref mn, .ref mr, .int (nI rc), .ref mh, .ref mw, .ref mi, .ref mv, .ref mb, .ref ms, .ref mu, .ref mp, .ref mc, .ref mx, .ref mg, .ref ma, .int (nI tx)], aB E mt 800 ta, aB E mo 816 o, aB E mk 32 fk, aB E mn 12 fn, aI E mv 16 v, aI E mb 16 b, aB E ms 64 s, aI E mc 16 y.1, aI E mu 17 y.2.1, aI E mp 35 y.2.2.1, aI E ma 19 y.2.2.2.1, aB E mg 16 y.2.2.2.2, aB E mx 864 txt] [(0, .ref h), (1, .int (nI hd)), (2, .ref mo), (3, .int (nI k)), (4, .int (nI m))] 0 0 0 []
  refine j_aload_n hg 0 dM_seals_0 rfl rfl ?_
  refine j_iconst hg (v := 0) dM_seals_1 (by decide) ?_
  refine j_put hg (C := RX4) (T := TX4) (N := 21) (ty := .int) (ws' := [ob h 4 [.ref mt, .int (nI tn), .ref mo, .int (nI on), .ref mk, .ref mn, .ref mr, .int (nI rc), .ref mh, .ref mw, .ref mi, .ref mv, .ref mb, .ref ms, .ref mu, .ref mp, .ref mc, .ref mx, .ref mg, .ref ma, .int 0], aB E mt 800 ta, aB E mo 816 o, aB E mk 32 fk, aB E mn 12 fn, aI E mv 16 v, aI E mb 16 b, aB E ms 64 s, aI E mc 16 y.1, aI E mu 17 y.2.1, aI E mp 35 y.2.2.1, aI E ma 19 y.2.2.2.1, aB E mg 16 y.2.2.2.2, aB E mx 864 txt]) inX4 tyX4 tyX4_ok nmX4 0 rfl rfl 20 (by decide) m348 rfl (by decide +kernel) rfl rfl (Nat.le_of_ble_eq_true rfl) rfl dM_seals_2 ?_
  refine j_aload_n hg 0 dM_seals_5 rfl rfl ?_
  refine j_aload_n hg 0 dM_seals_6 rfl rfl ?_
  refine j_get hg (C := RX4) (T := TX4) (N := 21) inX4 0 rfl rfl 0 (by decide) m328 rfl dM_seals_7 ?_
  refine j_iconst hg (v := 0) dM_seals_10 (by decide) ?_
  refine j_iload_n hg 1 dM_seals_11 rfl rfl ?_
  refine j_callV hg (n := 3) (y := yM_text) (rm := rm_M_text) (Ws := (cT yM_text cM_text 5 none)) (As := [.ref mt, .int 0, .int (nI hd)]) (rest := []) (wr := [aB E mo 816 o, aB E mk 32 fk, aB E mn 12 fn, aI E mv 16 v, aI E mb 16 b, aB E ms 64 s, aI E mc 16 y.1, aI E mu 17 y.2.1, aI E mp 35 y.2.2.1, aI E ma 19 y.2.2.2.1, aB E mg 16 y.2.2.2.2]) 0 rfl rfl (c_M_text l E h mt mo mk mn mr mh mw mi mv mb ms mu mp mc mx mg ma tn on rc 0 mt 800 txt ta 0 hd hta (by omega) (by omega) (by omega) (by omega)) (gdV m470 m472 ms27 m5 m473) rfl (by decide +kernel) ⟨by decide, by decide⟩ rfl rfl (Nat.le_of_ble_eq_true rfl) ⟨by decide, by decide⟩ [0, 13, 1] [2, 3, 4, 5, 6, 7, 8, 9, 10, 11, 12] rfl rfl (by decide) (by decide) (by decide) dM_seals_12 (fun _ _ => ?_)
  show J E 6 g [aB E mo 816 o, aB E mk 32 fk, aB E mn 12 fn, aI E mv 16 v, aI E mb 16 b, aB E ms 64 s, aI E mc 16 y.1, aI E mu 17 y.2.1, aI E mp 35 y.2.2.1, aI E ma 19 y.2.2.2.1, aB E mg 16 y.2.2.2.2, ob h 4 [.ref mt, .int (nI tn), .ref mo, .int (nI on), .ref mk, .ref mn, .ref mr, .int (nI rc), .ref mh, .ref mw, .ref mi, .ref mv, .ref mb, .ref ms, .ref mu, .ref mp, .ref mc, .ref mx, .ref mg, .ref ma, .int (nI (0 + (hd + 15) / 16 * 16))], aB E mx 864 (txF txt ta 0 0 hd ((hd + 15) / 16 * 16)), aB E mt 800 ta] [(0, .ref h), (1, .int (nI hd)), (2, .ref mo), (3, .int (nI k)), (4, .int (nI m))] 0 0 15 []
  refine j_aload_n hg 0 dM_seals_15 rfl rfl ?_
  refine j_aload_n hg 2 dM_seals_16 rfl rfl ?_
  refine j_iload_n hg 3 dM_seals_17 rfl rfl ?_
  refine j_iload hg 4 dM_seals_18 rfl ?_
  refine j_callV hg (n := 3) (y := yM_text) (rm := rm_M_text) (Ws := (cT yM_text cM_text 5 none)) (As := [.ref mo, .int (nI k), .int (nI m)]) (rest := []) (wr := [aB E mk 32 fk, aB E mn 12 fn, aI E mv 16 v, aI E mb 16 b, aB E ms 64 s, aI E mc 16 y.1, aI E mu 17 y.2.1, aI E mp 35 y.2.2.1, aI E ma 19 y.2.2.2.1, aB E mg 16 y.2.2.2.2, aB E mt 800 ta]) 0 rfl rfl (c_M_text l E h mt mo mk mn mr mh mw mi mv mb ms mu mp mc mx mg ma tn on rc (0 + (hd + 15) / 16 * 16) mo 816 (txF txt ta 0 0 hd ((hd + 15) / 16 * 16)) o k m ho (by omega) (by omega) (by omega) (by omega)) (gdV m470 m472 ms27 m5 m473) rfl (by decide +kernel) ⟨by decide, by decide⟩ rfl rfl (Nat.le_of_ble_eq_true rfl) ⟨by decide, by decide⟩ [11, 12, 0] [1, 2, 3, 4, 5, 6, 7, 8, 9, 10, 13] rfl rfl (by decide) (by decide) (by decide) dM_seals_20 (fun _ _ => ?_)
  show J E 6 g [aB E mk 32 fk, aB E mn 12 fn, aI E mv 16 v, aI E mb 16 b, aB E ms 64 s, aI E mc 16 y.1, aI E mu 17 y.2.1, aI E mp 35 y.2.2.1, aI E ma 19 y.2.2.2.1, aB E mg 16 y.2.2.2.2, aB E mt 800 ta, ob h 4 [.ref mt, .int (nI tn), .ref mo, .int (nI on), .ref mk, .ref mn, .ref mr, .int (nI rc), .ref mh, .ref mw, .ref mi, .ref mv, .ref mb, .ref ms, .ref mu, .ref mp, .ref mc, .ref mx, .ref mg, .ref ma, .int (nI (0 + (hd + 15) / 16 * 16 + (m + 15) / 16 * 16))], aB E mx 864 (txF (txF txt ta 0 0 hd ((hd + 15) / 16 * 16)) o (0 + (hd + 15) / 16 * 16) k m ((m + 15) / 16 * 16)), aB E mo 816 o] [(0, .ref h), (1, .int (nI hd)), (2, .ref mo), (3, .int (nI k)), (4, .int (nI m))] 0 0 23 []
  refine j_iconst hg (v := 0) dM_seals_23 (by decide) ?_
  refine j_istore hg (lv' := [(5, .int 0), (0, .ref h), (1, .int (nI hd)), (2, .ref mo), (3, .int (nI k)), (4, .int (nI m))]) dM_seals_24 (by decide) rfl ?_
  refine j_sub [11, 10, 13, 0, 1, 2, 3, 4, 5, 6, 7, 8, 9, 12] (ws' := [ob h 4 [.ref mt, .int (nI tn), .ref mo, .int (nI on), .ref mk, .ref mn, .ref mr, .int (nI rc), .ref mh, .ref mw, .ref mi, .ref mv, .ref mb, .ref ms, .ref mu, .ref mp, .ref mc, .ref mx, .ref mg, .ref ma, .int (nI (0 + (hd + 15) / 16 * 16 + (m + 15) / 16 * 16))], aB E mt 800 ta, aB E mo 816 o, aB E mk 32 fk, aB E mn 12 fn, aI E mv 16 v, aI E mb 16 b, aB E ms 64 s, aI E mc 16 y.1, aI E mu 17 y.2.1, aI E mp 35 y.2.2.1, aI E ma 19 y.2.2.2.1, aB E mg 16 y.2.2.2.2, aB E mx 864 (txF (txF txt ta 0 0 hd ((hd + 15) / 16 * 16)) o (0 + (hd + 15) / 16 * 16) k m ((m + 15) / 16 * 16))]) rfl (by decide) ?_
  refine j_ws (ws' := [ob h 4 [.ref mt, .int (nI tn), .ref mo, .int (nI on), .ref mk, .ref mn, .ref mr, .int (nI rc), .ref mh, .ref mw, .ref mi, .ref mv, .ref mb, .ref ms, .ref mu, .ref mp, .ref mc, .ref mx, .ref mg, .ref ma, .int (nI (slN hd m))], aB E mt 800 ta, aB E mo 816 o, aB E mk 32 fk, aB E mn 12 fn, aI E mv 16 v, aI E mb 16 b, aB E ms 64 s, aI E mc 16 y.1, aI E mu 17 y.2.1, aI E mp 35 y.2.2.1, aI E ma 19 y.2.2.2.1, aB E mg 16 y.2.2.2.2, aB E mx 864 (txF (txF txt ta 0 0 hd ((hd + 15) / 16 * 16)) o ((hd + 15) / 16 * 16) k m ((m + 15) / 16 * 16))]) (by rw [show (0 : Nat) + (hd + 15) / 16 * 16 = (hd + 15) / 16 * 16 by omega]; rfl) ?_
  have hsl : slN hd m + 16 ≤ 864 := by unfold slN; omega
  refine j_pick [1, 2, 4, 5, 0] (lv' := [(0, .ref h), (1, .int (nI hd)), (3, .int (nI k)), (4, .int (nI m)), (5, .int 0)]) rfl ?_
  have loop : ∀ (zk i : Nat), i + zk = 16 → J E 6 g [ob h 4 [.ref mt, .int (nI tn), .ref mo, .int (nI on), .ref mk, .ref mn, .ref mr, .int (nI rc), .ref mh, .ref mw, .ref mi, .ref mv, .ref mb, .ref ms, .ref mu, .ref mp, .ref mc, .ref mx, .ref mg, .ref ma, .int (nI (slN hd m))], aB E mt 800 ta, aB E mo 816 o, aB E mk 32 fk, aB E mn 12 fn, aI E mv 16 v, aI E mb 16 b, aB E ms 64 s, aI E mc 16 y.1, aI E mu 17 y.2.1, aI E mp 35 y.2.2.1, aI E ma 19 y.2.2.2.1, aB E mg 16 y.2.2.2.2, aB E mx 864 (zrF (txF (txF txt ta 0 0 hd ((hd + 15) / 16 * 16)) o ((hd + 15) / 16 * 16) k m ((m + 15) / 16 * 16)) (slN hd m) i)] [(0, .ref h), (1, .int (nI hd)), (3, .int (nI k)), (4, .int (nI m)), (5, .int (nI i))] 0 0 26 [] := by
    intro zk
    induction zk with
    | zero =>
      intro i  hi
      obtain rfl : 16 = i := by omega
      refine j_iload hg 4 dM_seals_26 rfl ?_
      refine j_bipush hg (v := 16) dM_seals_28 (by decide) ?_
      refine j_nge_t hg (tgt := 52) 16 16 rfl rfl (by omega) (by omega) (by omega) dM_seals_30 (by decide) ?_
      refine j_aload_n hg 0 dM_seals_52 rfl rfl ?_
      refine j_get hg (C := RX4) (T := TX4) (N := 21) inX4 0 rfl rfl 17 (by decide) m345 rfl dM_seals_53 ?_
      refine j_aload_n hg 0 dM_seals_56 rfl rfl ?_
      refine j_get hg (C := RX4) (T := TX4) (N := 21) inX4 0 rfl rfl 20 (by decide) m348 rfl dM_seals_57 ?_
      refine j_iload_n hg 1 dM_seals_60 rfl rfl ?_
      refine j_i2b hg (v := sB (nI hd)) dM_seals_61 rfl ?_
      refine j_bast hg (ws' := [ob h 4 [.ref mt, .int (nI tn), .ref mo, .int (nI on), .ref mk, .ref mn, .ref mr, .int (nI rc), .ref mh, .ref mw, .ref mi, .ref mv, .ref mb, .ref ms, .ref mu, .ref mp, .ref mc, .ref mx, .ref mg, .ref ma, .int (nI (slN hd m))], aB E mt 800 ta, aB E mo 816 o, aB E mk 32 fk, aB E mn 12 fn, aI E mv 16 v, aI E mb 16 b, aB E ms 64 s, aI E mc 16 y.1, aI E mu 17 y.2.1, aI E mp 35 y.2.2.1, aI E ma 19 y.2.2.2.1, aB E mg 16 y.2.2.2.2, aB E mx 864 (upd (zrF (txF (txF txt ta 0 0 hd ((hd + 15) / 16 * 16)) o ((hd + 15) / 16 * 16) k m ((m + 15) / 16 * 16)) (slN hd m) 16) (slN hd m) (sB (nI hd)))]) 13 (slN hd m) rfl rfl (by omega) (by omega) (sB_nar _) rfl dM_seals_62 ?_
      refine j_aload_n hg 0 dM_seals_63 rfl rfl ?_
      refine j_get hg (C := RX4) (T := TX4) (N := 21) inX4 0 rfl rfl 17 (by decide) m345 rfl dM_seals_64 ?_
      refine j_aload_n hg 0 dM_seals_67 rfl rfl ?_
      refine j_get hg (C := RX4) (T := TX4) (N := 21) inX4 0 rfl rfl 20 (by decide) m348 rfl dM_seals_68 ?_
      refine j_iconst hg (v := 1) dM_seals_71 (by decide) ?_
      refine j_iadd hg (v := nI (slN hd m + 1)) dM_seals_72 (nI_add (slN hd m) 1) ?_
      refine j_iload_n hg 1 dM_seals_73 rfl rfl ?_
      refine j_bipush hg (v := 8) dM_seals_74 (by decide) ?_
      refine j_ishr hg (v := shr (nI hd) 8) dM_seals_76 rfl ?_
      refine j_i2b hg (v := sB (shr (nI hd) 8)) dM_seals_77 rfl ?_
      refine j_bast hg (ws' := [ob h 4 [.ref mt, .int (nI tn), .ref mo, .int (nI on), .ref mk, .ref mn, .ref mr, .int (nI rc), .ref mh, .ref mw, .ref mi, .ref mv, .ref mb, .ref ms, .ref mu, .ref mp, .ref mc, .ref mx, .ref mg, .ref ma, .int (nI (slN hd m))], aB E mt 800 ta, aB E mo 816 o, aB E mk 32 fk, aB E mn 12 fn, aI E mv 16 v, aI E mb 16 b, aB E ms 64 s, aI E mc 16 y.1, aI E mu 17 y.2.1, aI E mp 35 y.2.2.1, aI E ma 19 y.2.2.2.1, aB E mg 16 y.2.2.2.2, aB E mx 864 (upd (upd (zrF (txF (txF txt ta 0 0 hd ((hd + 15) / 16 * 16)) o ((hd + 15) / 16 * 16) k m ((m + 15) / 16 * 16)) (slN hd m) 16) (slN hd m) (sB (nI hd))) (slN hd m + 1) (sB (shr (nI hd) 8)))]) 13 (slN hd m + 1) rfl rfl (by omega) (by omega) (sB_nar _) rfl dM_seals_78 ?_
      refine j_aload_n hg 0 dM_seals_79 rfl rfl ?_
      refine j_get hg (C := RX4) (T := TX4) (N := 21) inX4 0 rfl rfl 17 (by decide) m345 rfl dM_seals_80 ?_
      refine j_aload_n hg 0 dM_seals_83 rfl rfl ?_
      refine j_get hg (C := RX4) (T := TX4) (N := 21) inX4 0 rfl rfl 20 (by decide) m348 rfl dM_seals_84 ?_
      refine j_bipush hg (v := 8) dM_seals_87 (by decide) ?_
      refine j_iadd hg (v := nI (slN hd m + 8)) dM_seals_89 (nI_add (slN hd m) 8) ?_
      refine j_iload hg 3 dM_seals_90 rfl ?_
      refine j_i2b hg (v := sB (nI m)) dM_seals_92 rfl ?_
      refine j_bast hg (ws' := [ob h 4 [.ref mt, .int (nI tn), .ref mo, .int (nI on), .ref mk, .ref mn, .ref mr, .int (nI rc), .ref mh, .ref mw, .ref mi, .ref mv, .ref mb, .ref ms, .ref mu, .ref mp, .ref mc, .ref mx, .ref mg, .ref ma, .int (nI (slN hd m))], aB E mt 800 ta, aB E mo 816 o, aB E mk 32 fk, aB E mn 12 fn, aI E mv 16 v, aI E mb 16 b, aB E ms 64 s, aI E mc 16 y.1, aI E mu 17 y.2.1, aI E mp 35 y.2.2.1, aI E ma 19 y.2.2.2.1, aB E mg 16 y.2.2.2.2, aB E mx 864 (upd (upd (upd (zrF (txF (txF txt ta 0 0 hd ((hd + 15) / 16 * 16)) o ((hd + 15) / 16 * 16) k m ((m + 15) / 16 * 16)) (slN hd m) 16) (slN hd m) (sB (nI hd))) (slN hd m + 1) (sB (shr (nI hd) 8))) (slN hd m + 8) (sB (nI m)))]) 13 (slN hd m + 8) rfl rfl (by omega) (by omega) (sB_nar _) rfl dM_seals_93 ?_
      refine j_aload_n hg 0 dM_seals_94 rfl rfl ?_
      refine j_get hg (C := RX4) (T := TX4) (N := 21) inX4 0 rfl rfl 17 (by decide) m345 rfl dM_seals_95 ?_
      refine j_aload_n hg 0 dM_seals_98 rfl rfl ?_
      refine j_get hg (C := RX4) (T := TX4) (N := 21) inX4 0 rfl rfl 20 (by decide) m348 rfl dM_seals_99 ?_
      refine j_bipush hg (v := 9) dM_seals_102 (by decide) ?_
      refine j_iadd hg (v := nI (slN hd m + 9)) dM_seals_104 (nI_add (slN hd m) 9) ?_
      refine j_iload hg 3 dM_seals_105 rfl ?_
      refine j_bipush hg (v := 8) dM_seals_107 (by decide) ?_
      refine j_ishr hg (v := shr (nI m) 8) dM_seals_109 rfl ?_
      refine j_i2b hg (v := sB (shr (nI m) 8)) dM_seals_110 rfl ?_
      refine j_bast hg (ws' := [ob h 4 [.ref mt, .int (nI tn), .ref mo, .int (nI on), .ref mk, .ref mn, .ref mr, .int (nI rc), .ref mh, .ref mw, .ref mi, .ref mv, .ref mb, .ref ms, .ref mu, .ref mp, .ref mc, .ref mx, .ref mg, .ref ma, .int (nI (slN hd m))], aB E mt 800 ta, aB E mo 816 o, aB E mk 32 fk, aB E mn 12 fn, aI E mv 16 v, aI E mb 16 b, aB E ms 64 s, aI E mc 16 y.1, aI E mu 17 y.2.1, aI E mp 35 y.2.2.1, aI E ma 19 y.2.2.2.1, aB E mg 16 y.2.2.2.2, aB E mx 864 (upd (upd (upd (upd (zrF (txF (txF txt ta 0 0 hd ((hd + 15) / 16 * 16)) o ((hd + 15) / 16 * 16) k m ((m + 15) / 16 * 16)) (slN hd m) 16) (slN hd m) (sB (nI hd))) (slN hd m + 1) (sB (shr (nI hd) 8))) (slN hd m + 8) (sB (nI m))) (slN hd m + 9) (sB (shr (nI m) 8)))]) 13 (slN hd m + 9) rfl rfl (by omega) (by omega) (sB_nar _) rfl dM_seals_111 ?_
      show J E 6 g [ob h 4 [.ref mt, .int (nI tn), .ref mo, .int (nI on), .ref mk, .ref mn, .ref mr, .int (nI rc), .ref mh, .ref mw, .ref mi, .ref mv, .ref mb, .ref ms, .ref mu, .ref mp, .ref mc, .ref mx, .ref mg, .ref ma, .int (nI (slN hd m))], aB E mt 800 ta, aB E mo 816 o, aB E mk 32 fk, aB E mn 12 fn, aI E mv 16 v, aI E mb 16 b, aB E ms 64 s, aI E mc 16 y.1, aI E mu 17 y.2.1, aI E mp 35 y.2.2.1, aI E ma 19 y.2.2.2.1, aB E mg 16 y.2.2.2.2, aB E mx 864 (slT txt ta o hd k m)] [(0, .ref h), (1, .int (nI hd)), (3, .int (nI k)), (4, .int (nI m)), (5, .int 16)] 0 0 112 []
      refine j_aload_n hg 0 dM_seals_112 rfl rfl ?_
      refine j_iconst hg (v := 0) dM_seals_113 (by decide) ?_
      refine j_callV hg (n := 1) (y := yM_block) (rm := rm_M_block) (Ws := (cT yM_block cM_block 5 none)) (As := [.int 0]) (rest := []) (wr := [aB E mt 800 ta, aB E mo 816 o, aI E mc 16 y.1, aI E mu 17 y.2.1, aI E mp 35 y.2.2.1, aI E ma 19 y.2.2.2.1, aB E mg 16 y.2.2.2.2, aB E mx 864 (slT txt ta o hd k m)]) 0 rfl rfl (c_M_block l E h mt mo mk mn mr mh mw mi mv mb ms mu mp mc mx mg ma tn on rc (slN hd m) fk fn v b s 0) (gdV m420 m422 ms19 m5 m423) rfl (by decide +kernel) ⟨by decide, by decide⟩ rfl rfl (Nat.le_of_ble_eq_true rfl) ⟨by decide, by decide⟩ [0, 3, 4, 5, 6, 7] [1, 2, 8, 9, 10, 11, 12, 13] rfl rfl (by decide) (by decide) (by decide) dM_seals_114 (fun _ _ => ?_)
      show J E 6 g [aB E mt 800 ta, aB E mo 816 o, aI E mc 16 y.1, aI E mu 17 y.2.1, aI E mp 35 y.2.2.1, aI E ma 19 y.2.2.2.1, aB E mg 16 y.2.2.2.2, aB E mx 864 (slT txt ta o hd k m), ob h 4 [.ref mt, .int (nI tn), .ref mo, .int (nI on), .ref mk, .ref mn, .ref mr, .int (nI rc), .ref mh, .ref mw, .ref mi, .ref mv, .ref mb, .ref ms, .ref mu, .ref mp, .ref mc, .ref mx, .ref mg, .ref ma, .int (nI (slN hd m))], aB E mk 32 fk, aB E mn 12 fn, aI E mv 16 (mvF b v fk fn 0), aI E mb 16 (layF b fk fn 0), aB E ms 64 (msF s b v fk fn 0)] [(0, .ref h), (1, .int (nI hd)), (3, .int (nI k)), (4, .int (nI m)), (5, .int 16)] 0 0 117 []
      refine j_aload_n hg 0 dM_seals_117 rfl rfl ?_
      refine j_aload_n hg 0 dM_seals_118 rfl rfl ?_
      refine j_get hg (C := RX4) (T := TX4) (N := 21) inX4 8 rfl rfl 13 (by decide) m341 rfl dM_seals_119 ?_
      refine j_aload_n hg 0 dM_seals_122 rfl rfl ?_
      refine j_get hg (C := RX4) (T := TX4) (N := 21) inX4 8 rfl rfl 20 (by decide) m348 rfl dM_seals_123 ?_
      refine j_bipush hg (v := 16) dM_seals_126 (by decide) ?_
      refine j_iadd hg (v := nI (slN hd m + 16)) dM_seals_128 (nI_add (slN hd m) 16) ?_
      refine j_callV hg (n := 2) (y := yM_sumOf) (rm := rm_M_sumOf) (Ws := (cT yM_sumOf cM_sumOf 7 none)) (As := [.ref ms, .int (nI (slN hd m + 16))]) (rest := []) (wr := [aB E mt 800 ta, aB E mo 816 o, aB E mk 32 fk, aB E mn 12 fn, aI E mv 16 (mvF b v fk fn 0), aI E mb 16 (layF b fk fn 0)]) 0 rfl rfl (c_M_sumOf l E h mt mo mk mn mr mh mw mi mv mb ms mu mp mc mx mg ma tn on rc (slN hd m) ms 64 (msF s b v fk fn 0) (slT txt ta o hd k m) y (slN hd m + 16) (by omega) (by omega) (by omega)) (gdV m442 m444 ms21 m5 m445) rfl (by decide +kernel) ⟨by decide, by decide⟩ rfl rfl (Nat.le_of_ble_eq_true rfl) ⟨by decide, by decide⟩ [8, 2, 3, 4, 5, 6, 7, 13] [0, 1, 9, 10, 11, 12] rfl rfl (by decide) (by decide) (by decide) dM_seals_129 (fun _ _ => ?_)
      show J E 6 g [aB E mt 800 ta, aB E mo 816 o, aB E mk 32 fk, aB E mn 12 fn, aI E mv 16 (mvF b v fk fn 0), aI E mb 16 (layF b fk fn 0), ob h 4 [.ref mt, .int (nI tn), .ref mo, .int (nI on), .ref mk, .ref mn, .ref mr, .int (nI rc), .ref mh, .ref mw, .ref mi, .ref mv, .ref mb, .ref ms, .ref mu, .ref mp, .ref mc, .ref mx, .ref mg, .ref ma, .int (nI (slN hd m))], aI E mc 16 ((smF y (msF s b v fk fn 0) (slT txt ta o hd k m) (slN hd m + 16)).1), aI E mu 17 ((smF y (msF s b v fk fn 0) (slT txt ta o hd k m) (slN hd m + 16)).2.1), aI E mp 35 ((smF y (msF s b v fk fn 0) (slT txt ta o hd k m) (slN hd m + 16)).2.2.1), aI E ma 19 ((smF y (msF s b v fk fn 0) (slT txt ta o hd k m) (slN hd m + 16)).2.2.2.1), aB E mg 16 ((smF y (msF s b v fk fn 0) (slT txt ta o hd k m) (slN hd m + 16)).2.2.2.2), aB E mx 864 (slT txt ta o hd k m), aB E ms 64 (msF s b v fk fn 0)] [(0, .ref h), (1, .int (nI hd)), (3, .int (nI k)), (4, .int (nI m)), (5, .int 16)] 0 0 132 []
      exact j_vret hg hR () trivial rfl [6, 0, 1, 2, 3, 4, 5, 13, 7, 8, 9, 10, 11, 12] rfl (by decide) (by decide) (by decide) dM_seals_132
    | succ zk ih =>
      intro i  hi
      refine j_iload hg 4 dM_seals_26 rfl ?_
      refine j_bipush hg (v := 16) dM_seals_28 (by decide) ?_
      refine j_nge_f hg (tgt := 52) i 16 rfl rfl (by omega) (by omega) (by omega) dM_seals_30 (by decide) ?_
      refine j_aload_n hg 0 dM_seals_33 rfl rfl ?_
      refine j_get hg (C := RX4) (T := TX4) (N := 21) inX4 0 rfl rfl 17 (by decide) m345 rfl dM_seals_34 ?_
      refine j_aload_n hg 0 dM_seals_37 rfl rfl ?_
      refine j_get hg (C := RX4) (T := TX4) (N := 21) inX4 0 rfl rfl 20 (by decide) m348 rfl dM_seals_38 ?_
      refine j_iload hg 4 dM_seals_41 rfl ?_
      refine j_iadd hg (v := nI (slN hd m + i)) dM_seals_43 (nI_add (slN hd m) i) ?_
      refine j_iconst hg (v := 0) dM_seals_44 (by decide) ?_
      refine j_bast hg (ws' := [ob h 4 [.ref mt, .int (nI tn), .ref mo, .int (nI on), .ref mk, .ref mn, .ref mr, .int (nI rc), .ref mh, .ref mw, .ref mi, .ref mv, .ref mb, .ref ms, .ref mu, .ref mp, .ref mc, .ref mx, .ref mg, .ref ma, .int (nI (slN hd m))], aB E mt 800 ta, aB E mo 816 o, aB E mk 32 fk, aB E mn 12 fn, aI E mv 16 v, aI E mb 16 b, aB E ms 64 s, aI E mc 16 y.1, aI E mu 17 y.2.1, aI E mp 35 y.2.2.1, aI E ma 19 y.2.2.2.1, aB E mg 16 y.2.2.2.2, aB E mx 864 (upd (zrF (txF (txF txt ta 0 0 hd ((hd + 15) / 16 * 16)) o ((hd + 15) / 16 * 16) k m ((m + 15) / 16 * 16)) (slN hd m) i) (slN hd m + i) 0)]) 13 (slN hd m + i) rfl rfl (by omega) (by omega) (by decide) rfl dM_seals_45 ?_
      refine j_iinc hg (kq := 4) (v := nI (i + 1)) (lv' := [(5, .int (nI (i + 1))), (0, .ref h), (1, .int (nI hd)), (3, .int (nI k)), (4, .int (nI m))]) dM_seals_46 rfl (nI_add i 1) (by decide) rfl ?_
      refine j_goto hg (tgt := 26) dM_seals_49 (by decide) ?_
      refine j_pick [1, 2, 3, 4, 0] (lv' := [(0, .ref h), (1, .int (nI hd)), (3, .int (nI k)), (4, .int (nI m)), (5, .int (nI (i + 1)))]) rfl ?_
      exact ih (i + 1) (by omega)
  exact loop (16) 0 (by omega)

set_option maxHeartbeats 1000000 in
set_option maxRecDepth 100000 in
theorem c_M_seals_t (l : Launch) (E : Ev) (h mt mo mk mn mr mh mw mi mv mb ms mu mp mc mx mg ma : Nat) (tn on rc tx : Nat) (fk fn v b s ta txt : Nat → Int32) (y : S5) (hd k m : Nat) (hta : Byt ta) (h1 : hd + m ≤ 800) (h2 : k + m ≤ 800) : MC E l yM_seals (cT yM_seals cM_seals 6 none) rm_M_seals [.ref h, .int (nI hd), .ref mt, .int (nI k), .int (nI m)] [ob h 4 [.ref mt, .int (nI tn), .ref mo, .int (nI on), .ref mk, .ref mn, .ref mr, .int (nI rc), .ref mh, .ref mw, .ref mi, .ref mv, .ref mb, .ref ms, .ref mu, .ref mp, .ref mc, .ref mx, .ref mg, .ref ma, .int (nI tx)], aB E mt 800 ta, aB E mk 32 fk, aB E mn 12 fn, aI E mv 16 v, aI E mb 16 b, aB E ms 64 s, aI E mc 16 y.1, aI E mu 17 y.2.1, aI E mp 35 y.2.2.1, aI E ma 19 y.2.2.2.1, aB E mg 16 y.2.2.2.2, aB E mx 864 txt] Unit (fun _ => True) (fun _ => none) (fun _ => [ob h 4 [.ref mt, .int (nI tn), .ref mo, .int (nI on), .ref mk, .ref mn, .ref mr, .int (nI rc), .ref mh, .ref mw, .ref mi, .ref mv, .ref mb, .ref ms, .ref mu, .ref mp, .ref mc, .ref mx, .ref mg, .ref ma, .int (nI (slN hd m))], aB E mt 800 ta, aB E mk 32 fk, aB E mn 12 fn, aI E mv 16 (mvF b v fk fn 0), aI E mb 16 (layF b fk fn 0), aB E ms 64 (msF s b v fk fn 0), aI E mc 16 ((smF y (msF s b v fk fn 0) (slT txt ta ta hd k m) (slN hd m + 16)).1), aI E mu 17 ((smF y (msF s b v fk fn 0) (slT txt ta ta hd k m) (slN hd m + 16)).2.1), aI E mp 35 ((smF y (msF s b v fk fn 0) (slT txt ta ta hd k m) (slN hd m + 16)).2.2.1), aI E ma 19 ((smF y (msF s b v fk fn 0) (slT txt ta ta hd k m) (slN hd m + 16)).2.2.2.1), aB E mg 16 ((smF y (msF s b v fk fn 0) (slT txt ta ta hd k m) (slN hd m + 16)).2.2.2.2), aB E mx 864 (slT txt ta ta hd k m)]) := by
  refine MC.of (cc := cM_seals) (nL := 6) (ret := none) (by decide) rfl cT_in (Nat.le_of_ble_eq_true rfl) (fun g hg hR => ?_)
  show J E 6 g [ob h 4 [.ref mt, .int (nI tn), .ref mo, .int (nI on), .ref mk, .ref mn, .ref mr, .int (nI rc), .ref mh, .ref mw, .ref mi, .ref mv, .ref mb, .ref ms, .ref mu, .ref mp, .ref mc, .ref mx, .ref mg, .ref ma, .int (nI tx)], aB E mt 800 ta, aB E mk 32 fk, aB E mn 12 fn, aI E mv 16 v, aI E mb 16 b, aB E ms 64 s, aI E mc 16 y.1, aI E mu 17 y.2.1, aI E mp 35 y.2.2.1, aI E ma 19 y.2.2.2.1, aB E mg 16 y.2.2.2.2, aB E mx 864 txt] [(0, .ref h), (1, .int (nI hd)), (2, .ref mt), (3, .int (nI k)), (4, .int (nI m))] 0 0 0 []
  refine j_aload_n hg 0 dM_seals_0 rfl rfl ?_
  refine j_iconst hg (v := 0) dM_seals_1 (by decide) ?_
  refine j_put hg (C := RX4) (T := TX4) (N := 21) (ty := .int) (ws' := [ob h 4 [.ref mt, .int (nI tn), .ref mo, .int (nI on), .ref mk, .ref mn, .ref mr, .int (nI rc), .ref mh, .ref mw, .ref mi, .ref mv, .ref mb, .ref ms, .ref mu, .ref mp, .ref mc, .ref mx, .ref mg, .ref ma, .int 0], aB E mt 800 ta, aB E mk 32 fk, aB E mn 12 fn, aI E mv 16 v, aI E mb 16 b, aB E ms 64 s, aI E mc 16 y.1, aI E mu 17 y.2.1, aI E mp 35 y.2.2.1, aI E ma 19 y.2.2.2.1, aB E mg 16 y.2.2.2.2, aB E mx 864 txt]) inX4 tyX4 tyX4_ok nmX4 0 rfl rfl 20 (by decide) m348 rfl (by decide +kernel) rfl rfl (Nat.le_of_ble_eq_true rfl) rfl dM_seals_2 ?_
  refine j_aload_n hg 0 dM_seals_5 rfl rfl ?_
  refine j_aload_n hg 0 dM_seals_6 rfl rfl ?_
  refine j_get hg (C := RX4) (T := TX4) (N := 21) inX4 0 rfl rfl 0 (by decide) m328 rfl dM_seals_7 ?_
  refine j_iconst hg (v := 0) dM_seals_10 (by decide) ?_
  refine j_iload_n hg 1 dM_seals_11 rfl rfl ?_
  refine j_callV hg (n := 3) (y := yM_text) (rm := rm_M_text) (Ws := (cT yM_text cM_text 5 none)) (As := [.ref mt, .int 0, .int (nI hd)]) (rest := []) (wr := [aB E mk 32 fk, aB E mn 12 fn, aI E mv 16 v, aI E mb 16 b, aB E ms 64 s, aI E mc 16 y.1, aI E mu 17 y.2.1, aI E mp 35 y.2.2.1, aI E ma 19 y.2.2.2.1, aB E mg 16 y.2.2.2.2]) 0 rfl rfl (c_M_text l E h mt mo mk mn mr mh mw mi mv mb ms mu mp mc mx mg ma tn on rc 0 mt 800 txt ta 0 hd hta (by omega) (by omega) (by omega) (by omega)) (gdV m470 m472 ms27 m5 m473) rfl (by decide +kernel) ⟨by decide, by decide⟩ rfl rfl (Nat.le_of_ble_eq_true rfl) ⟨by decide, by decide⟩ [0, 12, 1] [2, 3, 4, 5, 6, 7, 8, 9, 10, 11] rfl rfl (by decide) (by decide) (by decide) dM_seals_12 (fun _ _ => ?_)
  show J E 6 g [aB E mk 32 fk, aB E mn 12 fn, aI E mv 16 v, aI E mb 16 b, aB E ms 64 s, aI E mc 16 y.1, aI E mu 17 y.2.1, aI E mp 35 y.2.2.1, aI E ma 19 y.2.2.2.1, aB E mg 16 y.2.2.2.2, ob h 4 [.ref mt, .int (nI tn), .ref mo, .int (nI on), .ref mk, .ref mn, .ref mr, .int (nI rc), .ref mh, .ref mw, .ref mi, .ref mv, .ref mb, .ref ms, .ref mu, .ref mp, .ref mc, .ref mx, .ref mg, .ref ma, .int (nI (0 + (hd + 15) / 16 * 16))], aB E mx 864 (txF txt ta 0 0 hd ((hd + 15) / 16 * 16)), aB E mt 800 ta] [(0, .ref h), (1, .int (nI hd)), (2, .ref mt), (3, .int (nI k)), (4, .int (nI m))] 0 0 15 []
  refine j_aload_n hg 0 dM_seals_15 rfl rfl ?_
  refine j_aload_n hg 2 dM_seals_16 rfl rfl ?_
  refine j_iload_n hg 3 dM_seals_17 rfl rfl ?_
  refine j_iload hg 4 dM_seals_18 rfl ?_
  refine j_callV hg (n := 3) (y := yM_text) (rm := rm_M_text) (Ws := (cT yM_text cM_text 5 none)) (As := [.ref mt, .int (nI k), .int (nI m)]) (rest := []) (wr := [aB E mk 32 fk, aB E mn 12 fn, aI E mv 16 v, aI E mb 16 b, aB E ms 64 s, aI E mc 16 y.1, aI E mu 17 y.2.1, aI E mp 35 y.2.2.1, aI E ma 19 y.2.2.2.1, aB E mg 16 y.2.2.2.2]) 0 rfl rfl (c_M_text l E h mt mo mk mn mr mh mw mi mv mb ms mu mp mc mx mg ma tn on rc (0 + (hd + 15) / 16 * 16) mt 800 (txF txt ta 0 0 hd ((hd + 15) / 16 * 16)) ta k m hta (by omega) (by omega) (by omega) (by omega)) (gdV m470 m472 ms27 m5 m473) rfl (by decide +kernel) ⟨by decide, by decide⟩ rfl rfl (Nat.le_of_ble_eq_true rfl) ⟨by decide, by decide⟩ [10, 11, 12] [0, 1, 2, 3, 4, 5, 6, 7, 8, 9] rfl rfl (by decide) (by decide) (by decide) dM_seals_20 (fun _ _ => ?_)
  show J E 6 g [aB E mk 32 fk, aB E mn 12 fn, aI E mv 16 v, aI E mb 16 b, aB E ms 64 s, aI E mc 16 y.1, aI E mu 17 y.2.1, aI E mp 35 y.2.2.1, aI E ma 19 y.2.2.2.1, aB E mg 16 y.2.2.2.2, ob h 4 [.ref mt, .int (nI tn), .ref mo, .int (nI on), .ref mk, .ref mn, .ref mr, .int (nI rc), .ref mh, .ref mw, .ref mi, .ref mv, .ref mb, .ref ms, .ref mu, .ref mp, .ref mc, .ref mx, .ref mg, .ref ma, .int (nI (0 + (hd + 15) / 16 * 16 + (m + 15) / 16 * 16))], aB E mx 864 (txF (txF txt ta 0 0 hd ((hd + 15) / 16 * 16)) ta (0 + (hd + 15) / 16 * 16) k m ((m + 15) / 16 * 16)), aB E mt 800 ta] [(0, .ref h), (1, .int (nI hd)), (2, .ref mt), (3, .int (nI k)), (4, .int (nI m))] 0 0 23 []
  refine j_iconst hg (v := 0) dM_seals_23 (by decide) ?_
  refine j_istore hg (lv' := [(5, .int 0), (0, .ref h), (1, .int (nI hd)), (2, .ref mt), (3, .int (nI k)), (4, .int (nI m))]) dM_seals_24 (by decide) rfl ?_
  refine j_sub [10, 12, 0, 1, 2, 3, 4, 5, 6, 7, 8, 9, 11] (ws' := [ob h 4 [.ref mt, .int (nI tn), .ref mo, .int (nI on), .ref mk, .ref mn, .ref mr, .int (nI rc), .ref mh, .ref mw, .ref mi, .ref mv, .ref mb, .ref ms, .ref mu, .ref mp, .ref mc, .ref mx, .ref mg, .ref ma, .int (nI (0 + (hd + 15) / 16 * 16 + (m + 15) / 16 * 16))], aB E mt 800 ta, aB E mk 32 fk, aB E mn 12 fn, aI E mv 16 v, aI E mb 16 b, aB E ms 64 s, aI E mc 16 y.1, aI E mu 17 y.2.1, aI E mp 35 y.2.2.1, aI E ma 19 y.2.2.2.1, aB E mg 16 y.2.2.2.2, aB E mx 864 (txF (txF txt ta 0 0 hd ((hd + 15) / 16 * 16)) ta (0 + (hd + 15) / 16 * 16) k m ((m + 15) / 16 * 16))]) rfl (by decide) ?_
  refine j_ws (ws' := [ob h 4 [.ref mt, .int (nI tn), .ref mo, .int (nI on), .ref mk, .ref mn, .ref mr, .int (nI rc), .ref mh, .ref mw, .ref mi, .ref mv, .ref mb, .ref ms, .ref mu, .ref mp, .ref mc, .ref mx, .ref mg, .ref ma, .int (nI (slN hd m))], aB E mt 800 ta, aB E mk 32 fk, aB E mn 12 fn, aI E mv 16 v, aI E mb 16 b, aB E ms 64 s, aI E mc 16 y.1, aI E mu 17 y.2.1, aI E mp 35 y.2.2.1, aI E ma 19 y.2.2.2.1, aB E mg 16 y.2.2.2.2, aB E mx 864 (txF (txF txt ta 0 0 hd ((hd + 15) / 16 * 16)) ta ((hd + 15) / 16 * 16) k m ((m + 15) / 16 * 16))]) (by rw [show (0 : Nat) + (hd + 15) / 16 * 16 = (hd + 15) / 16 * 16 by omega]; rfl) ?_
  have hsl : slN hd m + 16 ≤ 864 := by unfold slN; omega
  refine j_pick [1, 2, 4, 5, 0] (lv' := [(0, .ref h), (1, .int (nI hd)), (3, .int (nI k)), (4, .int (nI m)), (5, .int 0)]) rfl ?_
  have loop : ∀ (zk i : Nat), i + zk = 16 → J E 6 g [ob h 4 [.ref mt, .int (nI tn), .ref mo, .int (nI on), .ref mk, .ref mn, .ref mr, .int (nI rc), .ref mh, .ref mw, .ref mi, .ref mv, .ref mb, .ref ms, .ref mu, .ref mp, .ref mc, .ref mx, .ref mg, .ref ma, .int (nI (slN hd m))], aB E mt 800 ta, aB E mk 32 fk, aB E mn 12 fn, aI E mv 16 v, aI E mb 16 b, aB E ms 64 s, aI E mc 16 y.1, aI E mu 17 y.2.1, aI E mp 35 y.2.2.1, aI E ma 19 y.2.2.2.1, aB E mg 16 y.2.2.2.2, aB E mx 864 (zrF (txF (txF txt ta 0 0 hd ((hd + 15) / 16 * 16)) ta ((hd + 15) / 16 * 16) k m ((m + 15) / 16 * 16)) (slN hd m) i)] [(0, .ref h), (1, .int (nI hd)), (3, .int (nI k)), (4, .int (nI m)), (5, .int (nI i))] 0 0 26 [] := by
    intro zk
    induction zk with
    | zero =>
      intro i  hi
      obtain rfl : 16 = i := by omega
      refine j_iload hg 4 dM_seals_26 rfl ?_
      refine j_bipush hg (v := 16) dM_seals_28 (by decide) ?_
      refine j_nge_t hg (tgt := 52) 16 16 rfl rfl (by omega) (by omega) (by omega) dM_seals_30 (by decide) ?_
      refine j_aload_n hg 0 dM_seals_52 rfl rfl ?_
      refine j_get hg (C := RX4) (T := TX4) (N := 21) inX4 0 rfl rfl 17 (by decide) m345 rfl dM_seals_53 ?_
      refine j_aload_n hg 0 dM_seals_56 rfl rfl ?_
      refine j_get hg (C := RX4) (T := TX4) (N := 21) inX4 0 rfl rfl 20 (by decide) m348 rfl dM_seals_57 ?_
      refine j_iload_n hg 1 dM_seals_60 rfl rfl ?_
      refine j_i2b hg (v := sB (nI hd)) dM_seals_61 rfl ?_
      refine j_bast hg (ws' := [ob h 4 [.ref mt, .int (nI tn), .ref mo, .int (nI on), .ref mk, .ref mn, .ref mr, .int (nI rc), .ref mh, .ref mw, .ref mi, .ref mv, .ref mb, .ref ms, .ref mu, .ref mp, .ref mc, .ref mx, .ref mg, .ref ma, .int (nI (slN hd m))], aB E mt 800 ta, aB E mk 32 fk, aB E mn 12 fn, aI E mv 16 v, aI E mb 16 b, aB E ms 64 s, aI E mc 16 y.1, aI E mu 17 y.2.1, aI E mp 35 y.2.2.1, aI E ma 19 y.2.2.2.1, aB E mg 16 y.2.2.2.2, aB E mx 864 (upd (zrF (txF (txF txt ta 0 0 hd ((hd + 15) / 16 * 16)) ta ((hd + 15) / 16 * 16) k m ((m + 15) / 16 * 16)) (slN hd m) 16) (slN hd m) (sB (nI hd)))]) 12 (slN hd m) rfl rfl (by omega) (by omega) (sB_nar _) rfl dM_seals_62 ?_
      refine j_aload_n hg 0 dM_seals_63 rfl rfl ?_
      refine j_get hg (C := RX4) (T := TX4) (N := 21) inX4 0 rfl rfl 17 (by decide) m345 rfl dM_seals_64 ?_
      refine j_aload_n hg 0 dM_seals_67 rfl rfl ?_
      refine j_get hg (C := RX4) (T := TX4) (N := 21) inX4 0 rfl rfl 20 (by decide) m348 rfl dM_seals_68 ?_
      refine j_iconst hg (v := 1) dM_seals_71 (by decide) ?_
      refine j_iadd hg (v := nI (slN hd m + 1)) dM_seals_72 (nI_add (slN hd m) 1) ?_
      refine j_iload_n hg 1 dM_seals_73 rfl rfl ?_
      refine j_bipush hg (v := 8) dM_seals_74 (by decide) ?_
      refine j_ishr hg (v := shr (nI hd) 8) dM_seals_76 rfl ?_
      refine j_i2b hg (v := sB (shr (nI hd) 8)) dM_seals_77 rfl ?_
      refine j_bast hg (ws' := [ob h 4 [.ref mt, .int (nI tn), .ref mo, .int (nI on), .ref mk, .ref mn, .ref mr, .int (nI rc), .ref mh, .ref mw, .ref mi, .ref mv, .ref mb, .ref ms, .ref mu, .ref mp, .ref mc, .ref mx, .ref mg, .ref ma, .int (nI (slN hd m))], aB E mt 800 ta, aB E mk 32 fk, aB E mn 12 fn, aI E mv 16 v, aI E mb 16 b, aB E ms 64 s, aI E mc 16 y.1, aI E mu 17 y.2.1, aI E mp 35 y.2.2.1, aI E ma 19 y.2.2.2.1, aB E mg 16 y.2.2.2.2, aB E mx 864 (upd (upd (zrF (txF (txF txt ta 0 0 hd ((hd + 15) / 16 * 16)) ta ((hd + 15) / 16 * 16) k m ((m + 15) / 16 * 16)) (slN hd m) 16) (slN hd m) (sB (nI hd))) (slN hd m + 1) (sB (shr (nI hd) 8)))]) 12 (slN hd m + 1) rfl rfl (by omega) (by omega) (sB_nar _) rfl dM_seals_78 ?_
      refine j_aload_n hg 0 dM_seals_79 rfl rfl ?_
      refine j_get hg (C := RX4) (T := TX4) (N := 21) inX4 0 rfl rfl 17 (by decide) m345 rfl dM_seals_80 ?_
      refine j_aload_n hg 0 dM_seals_83 rfl rfl ?_
      refine j_get hg (C := RX4) (T := TX4) (N := 21) inX4 0 rfl rfl 20 (by decide) m348 rfl dM_seals_84 ?_
      refine j_bipush hg (v := 8) dM_seals_87 (by decide) ?_
      refine j_iadd hg (v := nI (slN hd m + 8)) dM_seals_89 (nI_add (slN hd m) 8) ?_
      refine j_iload hg 3 dM_seals_90 rfl ?_
      refine j_i2b hg (v := sB (nI m)) dM_seals_92 rfl ?_
      refine j_bast hg (ws' := [ob h 4 [.ref mt, .int (nI tn), .ref mo, .int (nI on), .ref mk, .ref mn, .ref mr, .int (nI rc), .ref mh, .ref mw, .ref mi, .ref mv, .ref mb, .ref ms, .ref mu, .ref mp, .ref mc, .ref mx, .ref mg, .ref ma, .int (nI (slN hd m))], aB E mt 800 ta, aB E mk 32 fk, aB E mn 12 fn, aI E mv 16 v, aI E mb 16 b, aB E ms 64 s, aI E mc 16 y.1, aI E mu 17 y.2.1, aI E mp 35 y.2.2.1, aI E ma 19 y.2.2.2.1, aB E mg 16 y.2.2.2.2, aB E mx 864 (upd (upd (upd (zrF (txF (txF txt ta 0 0 hd ((hd + 15) / 16 * 16)) ta ((hd + 15) / 16 * 16) k m ((m + 15) / 16 * 16)) (slN hd m) 16) (slN hd m) (sB (nI hd))) (slN hd m + 1) (sB (shr (nI hd) 8))) (slN hd m + 8) (sB (nI m)))]) 12 (slN hd m + 8) rfl rfl (by omega) (by omega) (sB_nar _) rfl dM_seals_93 ?_
      refine j_aload_n hg 0 dM_seals_94 rfl rfl ?_
      refine j_get hg (C := RX4) (T := TX4) (N := 21) inX4 0 rfl rfl 17 (by decide) m345 rfl dM_seals_95 ?_
      refine j_aload_n hg 0 dM_seals_98 rfl rfl ?_
      refine j_get hg (C := RX4) (T := TX4) (N := 21) inX4 0 rfl rfl 20 (by decide) m348 rfl dM_seals_99 ?_
      refine j_bipush hg (v := 9) dM_seals_102 (by decide) ?_
      refine j_iadd hg (v := nI (slN hd m + 9)) dM_seals_104 (nI_add (slN hd m) 9) ?_
      refine j_iload hg 3 dM_seals_105 rfl ?_
      refine j_bipush hg (v := 8) dM_seals_107 (by decide) ?_
      refine j_ishr hg (v := shr (nI m) 8) dM_seals_109 rfl ?_
      refine j_i2b hg (v := sB (shr (nI m) 8)) dM_seals_110 rfl ?_
      refine j_bast hg (ws' := [ob h 4 [.ref mt, .int (nI tn), .ref mo, .int (nI on), .ref mk, .ref mn, .ref mr, .int (nI rc), .ref mh, .ref mw, .ref mi, .ref mv, .ref mb, .ref ms, .ref mu, .ref mp, .ref mc, .ref mx, .ref mg, .ref ma, .int (nI (slN hd m))], aB E mt 800 ta, aB E mk 32 fk, aB E mn 12 fn, aI E mv 16 v, aI E mb 16 b, aB E ms 64 s, aI E mc 16 y.1, aI E mu 17 y.2.1, aI E mp 35 y.2.2.1, aI E ma 19 y.2.2.2.1, aB E mg 16 y.2.2.2.2, aB E mx 864 (upd (upd (upd (upd (zrF (txF (txF txt ta 0 0 hd ((hd + 15) / 16 * 16)) ta ((hd + 15) / 16 * 16) k m ((m + 15) / 16 * 16)) (slN hd m) 16) (slN hd m) (sB (nI hd))) (slN hd m + 1) (sB (shr (nI hd) 8))) (slN hd m + 8) (sB (nI m))) (slN hd m + 9) (sB (shr (nI m) 8)))]) 12 (slN hd m + 9) rfl rfl (by omega) (by omega) (sB_nar _) rfl dM_seals_111 ?_
      show J E 6 g [ob h 4 [.ref mt, .int (nI tn), .ref mo, .int (nI on), .ref mk, .ref mn, .ref mr, .int (nI rc), .ref mh, .ref mw, .ref mi, .ref mv, .ref mb, .ref ms, .ref mu, .ref mp, .ref mc, .ref mx, .ref mg, .ref ma, .int (nI (slN hd m))], aB E mt 800 ta, aB E mk 32 fk, aB E mn 12 fn, aI E mv 16 v, aI E mb 16 b, aB E ms 64 s, aI E mc 16 y.1, aI E mu 17 y.2.1, aI E mp 35 y.2.2.1, aI E ma 19 y.2.2.2.1, aB E mg 16 y.2.2.2.2, aB E mx 864 (slT txt ta ta hd k m)] [(0, .ref h), (1, .int (nI hd)), (3, .int (nI k)), (4, .int (nI m)), (5, .int 16)] 0 0 112 []
      refine j_aload_n hg 0 dM_seals_112 rfl rfl ?_
      refine j_iconst hg (v := 0) dM_seals_113 (by decide) ?_
      refine j_callV hg (n := 1) (y := yM_block) (rm := rm_M_block) (Ws := (cT yM_block cM_block 5 none)) (As := [.int 0]) (rest := []) (wr := [aB E mt 800 ta, aI E mc 16 y.1, aI E mu 17 y.2.1, aI E mp 35 y.2.2.1, aI E ma 19 y.2.2.2.1, aB E mg 16 y.2.2.2.2, aB E mx 864 (slT txt ta ta hd k m)]) 0 rfl rfl (c_M_block l E h mt mo mk mn mr mh mw mi mv mb ms mu mp mc mx mg ma tn on rc (slN hd m) fk fn v b s 0) (gdV m420 m422 ms19 m5 m423) rfl (by decide +kernel) ⟨by decide, by decide⟩ rfl rfl (Nat.le_of_ble_eq_true rfl) ⟨by decide, by decide⟩ [0, 2, 3, 4, 5, 6] [1, 7, 8, 9, 10, 11, 12] rfl rfl (by decide) (by decide) (by decide) dM_seals_114 (fun _ _ => ?_)
      show J E 6 g [aB E mt 800 ta, aI E mc 16 y.1, aI E mu 17 y.2.1, aI E mp 35 y.2.2.1, aI E ma 19 y.2.2.2.1, aB E mg 16 y.2.2.2.2, aB E mx 864 (slT txt ta ta hd k m), ob h 4 [.ref mt, .int (nI tn), .ref mo, .int (nI on), .ref mk, .ref mn, .ref mr, .int (nI rc), .ref mh, .ref mw, .ref mi, .ref mv, .ref mb, .ref ms, .ref mu, .ref mp, .ref mc, .ref mx, .ref mg, .ref ma, .int (nI (slN hd m))], aB E mk 32 fk, aB E mn 12 fn, aI E mv 16 (mvF b v fk fn 0), aI E mb 16 (layF b fk fn 0), aB E ms 64 (msF s b v fk fn 0)] [(0, .ref h), (1, .int (nI hd)), (3, .int (nI k)), (4, .int (nI m)), (5, .int 16)] 0 0 117 []
      refine j_aload_n hg 0 dM_seals_117 rfl rfl ?_
      refine j_aload_n hg 0 dM_seals_118 rfl rfl ?_
      refine j_get hg (C := RX4) (T := TX4) (N := 21) inX4 7 rfl rfl 13 (by decide) m341 rfl dM_seals_119 ?_
      refine j_aload_n hg 0 dM_seals_122 rfl rfl ?_
      refine j_get hg (C := RX4) (T := TX4) (N := 21) inX4 7 rfl rfl 20 (by decide) m348 rfl dM_seals_123 ?_
      refine j_bipush hg (v := 16) dM_seals_126 (by decide) ?_
      refine j_iadd hg (v := nI (slN hd m + 16)) dM_seals_128 (nI_add (slN hd m) 16) ?_
      refine j_callV hg (n := 2) (y := yM_sumOf) (rm := rm_M_sumOf) (Ws := (cT yM_sumOf cM_sumOf 7 none)) (As := [.ref ms, .int (nI (slN hd m + 16))]) (rest := []) (wr := [aB E mt 800 ta, aB E mk 32 fk, aB E mn 12 fn, aI E mv 16 (mvF b v fk fn 0), aI E mb 16 (layF b fk fn 0)]) 0 rfl rfl (c_M_sumOf l E h mt mo mk mn mr mh mw mi mv mb ms mu mp mc mx mg ma tn on rc (slN hd m) ms 64 (msF s b v fk fn 0) (slT txt ta ta hd k m) y (slN hd m + 16) (by omega) (by omega) (by omega)) (gdV m442 m444 ms21 m5 m445) rfl (by decide +kernel) ⟨by decide, by decide⟩ rfl rfl (Nat.le_of_ble_eq_true rfl) ⟨by decide, by decide⟩ [7, 1, 2, 3, 4, 5, 6, 12] [0, 8, 9, 10, 11] rfl rfl (by decide) (by decide) (by decide) dM_seals_129 (fun _ _ => ?_)
      show J E 6 g [aB E mt 800 ta, aB E mk 32 fk, aB E mn 12 fn, aI E mv 16 (mvF b v fk fn 0), aI E mb 16 (layF b fk fn 0), ob h 4 [.ref mt, .int (nI tn), .ref mo, .int (nI on), .ref mk, .ref mn, .ref mr, .int (nI rc), .ref mh, .ref mw, .ref mi, .ref mv, .ref mb, .ref ms, .ref mu, .ref mp, .ref mc, .ref mx, .ref mg, .ref ma, .int (nI (slN hd m))], aI E mc 16 ((smF y (msF s b v fk fn 0) (slT txt ta ta hd k m) (slN hd m + 16)).1), aI E mu 17 ((smF y (msF s b v fk fn 0) (slT txt ta ta hd k m) (slN hd m + 16)).2.1), aI E mp 35 ((smF y (msF s b v fk fn 0) (slT txt ta ta hd k m) (slN hd m + 16)).2.2.1), aI E ma 19 ((smF y (msF s b v fk fn 0) (slT txt ta ta hd k m) (slN hd m + 16)).2.2.2.1), aB E mg 16 ((smF y (msF s b v fk fn 0) (slT txt ta ta hd k m) (slN hd m + 16)).2.2.2.2), aB E mx 864 (slT txt ta ta hd k m), aB E ms 64 (msF s b v fk fn 0)] [(0, .ref h), (1, .int (nI hd)), (3, .int (nI k)), (4, .int (nI m)), (5, .int 16)] 0 0 132 []
      exact j_vret hg hR () trivial rfl [5, 0, 1, 2, 3, 4, 12, 6, 7, 8, 9, 10, 11] rfl (by decide) (by decide) (by decide) dM_seals_132
    | succ zk ih =>
      intro i  hi
      refine j_iload hg 4 dM_seals_26 rfl ?_
      refine j_bipush hg (v := 16) dM_seals_28 (by decide) ?_
      refine j_nge_f hg (tgt := 52) i 16 rfl rfl (by omega) (by omega) (by omega) dM_seals_30 (by decide) ?_
      refine j_aload_n hg 0 dM_seals_33 rfl rfl ?_
      refine j_get hg (C := RX4) (T := TX4) (N := 21) inX4 0 rfl rfl 17 (by decide) m345 rfl dM_seals_34 ?_
      refine j_aload_n hg 0 dM_seals_37 rfl rfl ?_
      refine j_get hg (C := RX4) (T := TX4) (N := 21) inX4 0 rfl rfl 20 (by decide) m348 rfl dM_seals_38 ?_
      refine j_iload hg 4 dM_seals_41 rfl ?_
      refine j_iadd hg (v := nI (slN hd m + i)) dM_seals_43 (nI_add (slN hd m) i) ?_
      refine j_iconst hg (v := 0) dM_seals_44 (by decide) ?_
      refine j_bast hg (ws' := [ob h 4 [.ref mt, .int (nI tn), .ref mo, .int (nI on), .ref mk, .ref mn, .ref mr, .int (nI rc), .ref mh, .ref mw, .ref mi, .ref mv, .ref mb, .ref ms, .ref mu, .ref mp, .ref mc, .ref mx, .ref mg, .ref ma, .int (nI (slN hd m))], aB E mt 800 ta, aB E mk 32 fk, aB E mn 12 fn, aI E mv 16 v, aI E mb 16 b, aB E ms 64 s, aI E mc 16 y.1, aI E mu 17 y.2.1, aI E mp 35 y.2.2.1, aI E ma 19 y.2.2.2.1, aB E mg 16 y.2.2.2.2, aB E mx 864 (upd (zrF (txF (txF txt ta 0 0 hd ((hd + 15) / 16 * 16)) ta ((hd + 15) / 16 * 16) k m ((m + 15) / 16 * 16)) (slN hd m) i) (slN hd m + i) 0)]) 12 (slN hd m + i) rfl rfl (by omega) (by omega) (by decide) rfl dM_seals_45 ?_
      refine j_iinc hg (kq := 4) (v := nI (i + 1)) (lv' := [(5, .int (nI (i + 1))), (0, .ref h), (1, .int (nI hd)), (3, .int (nI k)), (4, .int (nI m))]) dM_seals_46 rfl (nI_add i 1) (by decide) rfl ?_
      refine j_goto hg (tgt := 26) dM_seals_49 (by decide) ?_
      refine j_pick [1, 2, 3, 4, 0] (lv' := [(0, .ref h), (1, .int (nI hd)), (3, .int (nI k)), (4, .int (nI m)), (5, .int (nI (i + 1)))]) rfl ?_
      exact ih (i + 1) (by omega)
  exact loop (16) 0 (by omega)

def rm_M_cover : Room := { frames := 3, cells := 0, slots := 0, locals := 69 }
set_option maxHeartbeats 1000000 in
set_option maxRecDepth 100000 in
theorem c_M_cover (l : Launch) (E : Ev) (h mt mo mk mn mr mh mw mi mv mb ms mu mp mc mx mg ma : Nat) (tn on rc tx : Nat) (fk fn ta : Nat → Int32) (x : MCS) (f m : Nat) (h1 : f + m ≤ 800) : MC E l yM_cover (cT yM_cover cM_cover 5 none) rm_M_cover [.ref h, .int (nI f), .int (nI m), .ref mo] [ob h 4 [.ref mt, .int (nI tn), .ref mo, .int (nI on), .ref mk, .ref mn, .ref mr, .int (nI rc), .ref mh, .ref mw, .ref mi, .ref mv, .ref mb, .ref ms, .ref mu, .ref mp, .ref mc, .ref mx, .ref mg, .ref ma, .int (nI tx)], aB E mt 800 ta, aB E mk 32 fk, aB E mn 12 fn, aI E mv 16 x.2.1, aI E mb 16 x.2.2.1, aB E ms 64 x.2.2.2, aB E mo 816 x.1] Unit (fun _ => True) (fun _ => none) (fun _ => [ob h 4 [.ref mt, .int (nI tn), .ref mo, .int (nI on), .ref mk, .ref mn, .ref mr, .int (nI rc), .ref mh, .ref mw, .ref mi, .ref mv, .ref mb, .ref ms, .ref mu, .ref mp, .ref mc, .ref mx, .ref mg, .ref ma, .int (nI tx)], aB E mt 800 ta, aB E mk 32 fk, aB E mn 12 fn, aI E mv 16 ((mcov x fk fn ta f m).2.1), aI E mb 16 ((mcov x fk fn ta f m).2.2.1), aB E ms 64 ((mcov x fk fn ta f m).2.2.2), aB E mo 816 ((mcov x fk fn ta f m).1)]) := by
  refine MC.of (cc := cM_cover) (nL := 5) (ret := none) (by decide) rfl cT_in (Nat.le_of_ble_eq_true rfl) (fun g hg hR => ?_)
  show J E 5 g [ob h 4 [.ref mt, .int (nI tn), .ref mo, .int (nI on), .ref mk, .ref mn, .ref mr, .int (nI rc), .ref mh, .ref mw, .ref mi, .ref mv, .ref mb, .ref ms, .ref mu, .ref mp, .ref mc, .ref mx, .ref mg, .ref ma, .int (nI tx)], aB E mt 800 ta, aB E mk 32 fk, aB E mn 12 fn, aI E mv 16 x.2.1, aI E mb 16 x.2.2.1, aB E ms 64 x.2.2.2, aB E mo 816 x.1] [(0, .ref h), (1, .int (nI f)), (2, .int (nI m)), (3, .ref mo)] 0 0 0 []
  refine j_iconst hg (v := 0) dM_cover_0 (by decide) ?_
  refine j_istore hg (lv' := [(4, .int 0), (0, .ref h), (1, .int (nI f)), (2, .int (nI m)), (3, .ref mo)]) dM_cover_1 (by decide) rfl ?_
  refine j_pick [1, 2, 3, 4, 0] (lv' := [(0, .ref h), (1, .int (nI f)), (2, .int (nI m)), (3, .ref mo), (4, .int 0)]) rfl ?_
  have loop : ∀ (zk i : Nat), i + zk = m → J E 5 g [ob h 4 [.ref mt, .int (nI tn), .ref mo, .int (nI on), .ref mk, .ref mn, .ref mr, .int (nI rc), .ref mh, .ref mw, .ref mi, .ref mv, .ref mb, .ref ms, .ref mu, .ref mp, .ref mc, .ref mx, .ref mg, .ref ma, .int (nI tx)], aB E mt 800 ta, aB E mk 32 fk, aB E mn 12 fn, aI E mv 16 ((mcov x fk fn ta f i).2.1), aI E mb 16 ((mcov x fk fn ta f i).2.2.1), aB E ms 64 ((mcov x fk fn ta f i).2.2.2), aB E mo 816 ((mcov x fk fn ta f i).1)] [(0, .ref h), (1, .int (nI f)), (2, .int (nI m)), (3, .ref mo), (4, .int (nI i))] 0 0 3 [] := by
    intro zk
    induction zk with
    | zero =>
      intro i  hi
      obtain rfl : m = i := by omega
      refine j_iload hg 4 dM_cover_3 rfl ?_
      refine j_iload_n hg 2 dM_cover_5 rfl rfl ?_
      refine j_nge_t hg (tgt := 59) m m rfl rfl (by omega) (by omega) (by omega) dM_cover_6 (by decide) ?_
      exact j_vret hg hR () trivial rfl [0, 1, 2, 3, 4, 5, 6, 7] rfl (by decide) (by decide) (by decide) dM_cover_59
    | succ zk ih =>
      intro i  hi
      refine j_iload hg 4 dM_cover_3 rfl ?_
      refine j_iload_n hg 2 dM_cover_5 rfl rfl ?_
      refine j_nge_f hg (tgt := 59) i m rfl rfl (by omega) (by omega) (by omega) dM_cover_6 (by decide) ?_
      refine j_iload hg 4 dM_cover_9 rfl ?_
      refine j_bipush hg (v := 64) dM_cover_11 (by decide) ?_
      refine j_irem hg (v := nI (i % 64)) dM_cover_13 (by decide) (pk_rem (a := i) (d := 64) (by omega) (by decide) (by decide)) ?_
      refine j_zne hg (tgt := 28) (i % 64) rfl (by omega) dM_cover_14 (by decide) (fun hc => ?_) (fun hc => ?_)
      · skip
        refine j_aload_n hg 3 dM_cover_28 rfl rfl ?_
        refine j_iload hg 4 dM_cover_29 rfl ?_
        refine j_aload_n hg 0 dM_cover_31 rfl rfl ?_
        refine j_get hg (C := RX4) (T := TX4) (N := 21) inX4 0 rfl rfl 0 (by decide) m328 rfl dM_cover_32 ?_
        refine j_iload_n hg 1 dM_cover_35 rfl rfl ?_
        refine j_iload hg 4 dM_cover_36 rfl ?_
        refine j_iadd hg (v := nI (f + i)) dM_cover_38 (nI_add f i) ?_
        refine j_bald hg (v := ta (f + i)) 1 (f + i) rfl rfl (by omega) (by omega) rfl dM_cover_39 ?_
        refine j_aload_n hg 0 dM_cover_40 rfl rfl ?_
        refine j_get hg (C := RX4) (T := TX4) (N := 21) inX4 0 rfl rfl 13 (by decide) m341 rfl dM_cover_41 ?_
        refine j_iload hg 4 dM_cover_44 rfl ?_
        refine j_bipush hg (v := 64) dM_cover_46 (by decide) ?_
        refine j_irem hg (v := nI (i % 64)) dM_cover_48 (by decide) (pk_rem (a := i) (d := 64) (by omega) (by decide) (by decide)) ?_
        refine j_bald hg (v := ((mcov x fk fn ta f i).2.2.2) (i % 64)) 6 (i % 64) rfl rfl (by omega) (by omega) rfl dM_cover_49 ?_
        refine j_ixor hg (v := (ta (f + i)) ^^^ (((mcov x fk fn ta f i).2.2.2) (i % 64))) dM_cover_50 rfl ?_
        refine j_i2b hg (v := sB ((ta (f + i)) ^^^ (((mcov x fk fn ta f i).2.2.2) (i % 64)))) dM_cover_51 rfl ?_
        refine j_bast hg (ws' := [ob h 4 [.ref mt, .int (nI tn), .ref mo, .int (nI on), .ref mk, .ref mn, .ref mr, .int (nI rc), .ref mh, .ref mw, .ref mi, .ref mv, .ref mb, .ref ms, .ref mu, .ref mp, .ref mc, .ref mx, .ref mg, .ref ma, .int (nI tx)], aB E mt 800 ta, aB E mk 32 fk, aB E mn 12 fn, aI E mv 16 ((mcov x fk fn ta f i).2.1), aI E mb 16 ((mcov x fk fn ta f i).2.2.1), aB E ms 64 ((mcov x fk fn ta f i).2.2.2), aB E mo 816 (upd ((mcov x fk fn ta f i).1) i (sB ((ta (f + i)) ^^^ (((mcov x fk fn ta f i).2.2.2) (i % 64)))))]) 7 i rfl rfl (by omega) (by omega) (sB_nar _) rfl dM_cover_52 ?_
        refine j_iinc hg (kq := 4) (v := nI (i + 1)) (lv' := [(4, .int (nI (i + 1))), (0, .ref h), (1, .int (nI f)), (2, .int (nI m)), (3, .ref mo)]) dM_cover_53 rfl (nI_add i 1) (by decide) rfl ?_
        refine j_goto hg (tgt := 3) dM_cover_56 (by decide) ?_
        refine j_pick [1, 2, 3, 4, 0] (lv' := [(0, .ref h), (1, .int (nI f)), (2, .int (nI m)), (3, .ref mo), (4, .int (nI (i + 1)))]) rfl ?_
        have ih1 := ih (i + 1) (by omega)
        have es : mcov x fk fn ta f (i + 1) = (upd (mcov x fk fn ta f i).1 i (sB (ta (f + i) ^^^ (mcov x fk fn ta f i).2.2.2 (i % 64))), (mcov x fk fn ta f i).2.1, (mcov x fk fn ta f i).2.2.1, (mcov x fk fn ta f i).2.2.2) := by show mcvF _ _ _ _ _ _ = _; rw [mcvF_eq]; exact if_neg hc
        rw [es] at ih1
        exact ih1
      · skip
        refine j_aload_n hg 0 dM_cover_17 rfl rfl ?_
        refine j_iconst hg (v := 1) dM_cover_18 (by decide) ?_
        refine j_iload hg 4 dM_cover_19 rfl ?_
        refine j_bipush hg (v := 64) dM_cover_21 (by decide) ?_
        refine j_idiv hg (v := nI (i / 64)) dM_cover_23 (by decide) (pk_div (a := i) (d := 64) (by omega) (by decide) (by decide)) ?_
        refine j_iadd hg (v := nI (1 + (i / 64))) dM_cover_24 (nI_add 1 (i / 64)) ?_
        refine j_callV hg (n := 1) (y := yM_block) (rm := rm_M_block) (Ws := (cT yM_block cM_block 5 none)) (As := [.int (nI (1 + (i / 64)))]) (rest := []) (wr := [aB E mt 800 ta, aB E mo 816 ((mcov x fk fn ta f i).1)]) 0 rfl rfl (c_M_block l E h mt mo mk mn mr mh mw mi mv mb ms mu mp mc mx mg ma tn on rc tx fk fn ((mcov x fk fn ta f i).2.1) ((mcov x fk fn ta f i).2.2.1) ((mcov x fk fn ta f i).2.2.2) (nI (1 + (i / 64)))) (gdV m420 m422 ms19 m5 m423) rfl (by decide +kernel) ⟨by decide, by decide⟩ rfl rfl (Nat.le_of_ble_eq_true rfl) ⟨by decide, by decide⟩ [0, 2, 3, 4, 5, 6] [1, 7] rfl rfl (by decide) (by decide) (by decide) dM_cover_25 (fun _ _ => ?_)
        show J E 5 g [aB E mt 800 ta, aB E mo 816 ((mcov x fk fn ta f i).1), ob h 4 [.ref mt, .int (nI tn), .ref mo, .int (nI on), .ref mk, .ref mn, .ref mr, .int (nI rc), .ref mh, .ref mw, .ref mi, .ref mv, .ref mb, .ref ms, .ref mu, .ref mp, .ref mc, .ref mx, .ref mg, .ref ma, .int (nI tx)], aB E mk 32 fk, aB E mn 12 fn, aI E mv 16 (mvF ((mcov x fk fn ta f i).2.2.1) ((mcov x fk fn ta f i).2.1) fk fn (nI (1 + (i / 64)))), aI E mb 16 (layF ((mcov x fk fn ta f i).2.2.1) fk fn (nI (1 + (i / 64)))), aB E ms 64 (msF ((mcov x fk fn ta f i).2.2.2) ((mcov x fk fn ta f i).2.2.1) ((mcov x fk fn ta f i).2.1) fk fn (nI (1 + (i / 64))))] [(0, .ref h), (1, .int (nI f)), (2, .int (nI m)), (3, .ref mo), (4, .int (nI i))] 0 0 28 []
        refine j_aload_n hg 3 dM_cover_28 rfl rfl ?_
        refine j_iload hg 4 dM_cover_29 rfl ?_
        refine j_aload_n hg 0 dM_cover_31 rfl rfl ?_
        refine j_get hg (C := RX4) (T := TX4) (N := 21) inX4 2 rfl rfl 0 (by decide) m328 rfl dM_cover_32 ?_
        refine j_iload_n hg 1 dM_cover_35 rfl rfl ?_
        refine j_iload hg 4 dM_cover_36 rfl ?_
        refine j_iadd hg (v := nI (f + i)) dM_cover_38 (nI_add f i) ?_
        refine j_bald hg (v := ta (f + i)) 0 (f + i) rfl rfl (by omega) (by omega) rfl dM_cover_39 ?_
        refine j_aload_n hg 0 dM_cover_40 rfl rfl ?_
        refine j_get hg (C := RX4) (T := TX4) (N := 21) inX4 2 rfl rfl 13 (by decide) m341 rfl dM_cover_41 ?_
        refine j_iload hg 4 dM_cover_44 rfl ?_
        refine j_bipush hg (v := 64) dM_cover_46 (by decide) ?_
        refine j_irem hg (v := nI (i % 64)) dM_cover_48 (by decide) (pk_rem (a := i) (d := 64) (by omega) (by decide) (by decide)) ?_
        refine j_bald hg (v := (msF ((mcov x fk fn ta f i).2.2.2) ((mcov x fk fn ta f i).2.2.1) ((mcov x fk fn ta f i).2.1) fk fn (nI (1 + (i / 64)))) (i % 64)) 7 (i % 64) rfl rfl (by omega) (by omega) rfl dM_cover_49 ?_
        refine j_ixor hg (v := (ta (f + i)) ^^^ ((msF ((mcov x fk fn ta f i).2.2.2) ((mcov x fk fn ta f i).2.2.1) ((mcov x fk fn ta f i).2.1) fk fn (nI (1 + (i / 64)))) (i % 64))) dM_cover_50 rfl ?_
        refine j_i2b hg (v := sB ((ta (f + i)) ^^^ ((msF ((mcov x fk fn ta f i).2.2.2) ((mcov x fk fn ta f i).2.2.1) ((mcov x fk fn ta f i).2.1) fk fn (nI (1 + (i / 64)))) (i % 64)))) dM_cover_51 rfl ?_
        refine j_bast hg (ws' := [aB E mt 800 ta, aB E mo 816 (upd ((mcov x fk fn ta f i).1) i (sB ((ta (f + i)) ^^^ ((msF ((mcov x fk fn ta f i).2.2.2) ((mcov x fk fn ta f i).2.2.1) ((mcov x fk fn ta f i).2.1) fk fn (nI (1 + (i / 64)))) (i % 64))))), ob h 4 [.ref mt, .int (nI tn), .ref mo, .int (nI on), .ref mk, .ref mn, .ref mr, .int (nI rc), .ref mh, .ref mw, .ref mi, .ref mv, .ref mb, .ref ms, .ref mu, .ref mp, .ref mc, .ref mx, .ref mg, .ref ma, .int (nI tx)], aB E mk 32 fk, aB E mn 12 fn, aI E mv 16 (mvF ((mcov x fk fn ta f i).2.2.1) ((mcov x fk fn ta f i).2.1) fk fn (nI (1 + (i / 64)))), aI E mb 16 (layF ((mcov x fk fn ta f i).2.2.1) fk fn (nI (1 + (i / 64)))), aB E ms 64 (msF ((mcov x fk fn ta f i).2.2.2) ((mcov x fk fn ta f i).2.2.1) ((mcov x fk fn ta f i).2.1) fk fn (nI (1 + (i / 64))))]) 1 i rfl rfl (by omega) (by omega) (sB_nar _) rfl dM_cover_52 ?_
        refine j_iinc hg (kq := 4) (v := nI (i + 1)) (lv' := [(4, .int (nI (i + 1))), (0, .ref h), (1, .int (nI f)), (2, .int (nI m)), (3, .ref mo)]) dM_cover_53 rfl (nI_add i 1) (by decide) rfl ?_
        refine j_goto hg (tgt := 3) dM_cover_56 (by decide) ?_
        refine j_sub [2, 0, 3, 4, 5, 6, 7, 1] (ws' := [ob h 4 [.ref mt, .int (nI tn), .ref mo, .int (nI on), .ref mk, .ref mn, .ref mr, .int (nI rc), .ref mh, .ref mw, .ref mi, .ref mv, .ref mb, .ref ms, .ref mu, .ref mp, .ref mc, .ref mx, .ref mg, .ref ma, .int (nI tx)], aB E mt 800 ta, aB E mk 32 fk, aB E mn 12 fn, aI E mv 16 (mvF ((mcov x fk fn ta f i).2.2.1) ((mcov x fk fn ta f i).2.1) fk fn (nI (1 + (i / 64)))), aI E mb 16 (layF ((mcov x fk fn ta f i).2.2.1) fk fn (nI (1 + (i / 64)))), aB E ms 64 (msF ((mcov x fk fn ta f i).2.2.2) ((mcov x fk fn ta f i).2.2.1) ((mcov x fk fn ta f i).2.1) fk fn (nI (1 + (i / 64)))), aB E mo 816 (upd ((mcov x fk fn ta f i).1) i (sB ((ta (f + i)) ^^^ ((msF ((mcov x fk fn ta f i).2.2.2) ((mcov x fk fn ta f i).2.2.1) ((mcov x fk fn ta f i).2.1) fk fn (nI (1 + (i / 64)))) (i % 64)))))]) rfl (by decide) ?_
        refine j_pick [1, 2, 3, 4, 0] (lv' := [(0, .ref h), (1, .int (nI f)), (2, .int (nI m)), (3, .ref mo), (4, .int (nI (i + 1)))]) rfl ?_
        have ih1 := ih (i + 1) (by omega)
        have es : mcov x fk fn ta f (i + 1) = (upd (mcov x fk fn ta f i).1 i (sB (ta (f + i) ^^^ msF (mcov x fk fn ta f i).2.2.2 (mcov x fk fn ta f i).2.2.1 (mcov x fk fn ta f i).2.1 fk fn (nI (1 + i / 64)) (i % 64))), mvF (mcov x fk fn ta f i).2.2.1 (mcov x fk fn ta f i).2.1 fk fn (nI (1 + i / 64)), layF (mcov x fk fn ta f i).2.2.1 fk fn (nI (1 + i / 64)), msF (mcov x fk fn ta f i).2.2.2 (mcov x fk fn ta f i).2.2.1 (mcov x fk fn ta f i).2.1 fk fn (nI (1 + i / 64))) := by show mcvF _ _ _ _ _ _ = _; rw [mcvF_eq]; exact if_pos hc
        rw [es] at ih1
        exact ih1
  exact loop (m) 0 (by omega)

def rm_M_put : Room := { frames := 0, cells := 0, slots := 0, locals := 0 }
set_option maxHeartbeats 1000000 in
set_option maxRecDepth 100000 in
theorem c_M_put (l : Launch) (E : Ev) (h mt mo mk mn mr mh mw mi mv mb ms mu mp mc mx mg ma : Nat) (tn on rc tx : Nat) (ta : Nat → Int32) (x : Int32) (h1 : tn + 4 ≤ 800) : MC E l yM_put (cT yM_put cM_put 3 none) rm_M_put [.ref h, .int x] [ob h 4 [.ref mt, .int (nI tn), .ref mo, .int (nI on), .ref mk, .ref mn, .ref mr, .int (nI rc), .ref mh, .ref mw, .ref mi, .ref mv, .ref mb, .ref ms, .ref mu, .ref mp, .ref mc, .ref mx, .ref mg, .ref ma, .int (nI tx)], aB E mt 800 ta] Unit (fun _ => True) (fun _ => none) (fun _ => [ob h 4 [.ref mt, .int (nI (tn + 4)), .ref mo, .int (nI on), .ref mk, .ref mn, .ref mr, .int (nI rc), .ref mh, .ref mw, .ref mi, .ref mv, .ref mb, .ref ms, .ref mu, .ref mp, .ref mc, .ref mx, .ref mg, .ref ma, .int (nI tx)], aB E mt 800 (pw ta tn x)]) := by
  refine MC.of (cc := cM_put) (nL := 3) (ret := none) (by decide) rfl cT_in (Nat.le_of_ble_eq_true rfl) (fun g hg hR => ?_)
  show J E 3 g [ob h 4 [.ref mt, .int (nI tn), .ref mo, .int (nI on), .ref mk, .ref mn, .ref mr, .int (nI rc), .ref mh, .ref mw, .ref mi, .ref mv, .ref mb, .ref ms, .ref mu, .ref mp, .ref mc, .ref mx, .ref mg, .ref ma, .int (nI tx)], aB E mt 800 ta] [(0, .ref h), (1, .int x)] 0 0 0 []
  refine j_bipush hg (v := 24) dM_put_0 (by decide) ?_
  refine j_istore_n hg (lv' := [(2, .int 24), (0, .ref h), (1, .int x)]) dM_put_2 rfl (by decide) rfl ?_
  refine j_iload_n hg 0 dM_put_3 rfl rfl ?_
  refine j_zlt_f hg (tgt := 36) 24 rfl (by omega) (by omega) dM_put_4 (by decide) ?_
  refine j_aload_n hg 1 dM_put_7 rfl rfl ?_
  refine j_get hg (C := RX4) (T := TX4) (N := 21) inX4 0 rfl rfl 0 (by decide) m328 rfl dM_put_8 ?_
  refine j_aload_n hg 1 dM_put_11 rfl rfl ?_
  refine j_get hg (C := RX4) (T := TX4) (N := 21) inX4 0 rfl rfl 1 (by decide) m329 rfl dM_put_12 ?_
  refine j_iload_n hg 2 dM_put_15 rfl rfl ?_
  refine j_iload_n hg 0 dM_put_16 rfl rfl ?_
  refine j_ishr hg (v := shr x 24) dM_put_17 rfl ?_
  refine j_i2b hg (v := sB (shr x 24)) dM_put_18 rfl ?_
  refine j_bast hg (ws' := [ob h 4 [.ref mt, .int (nI tn), .ref mo, .int (nI on), .ref mk, .ref mn, .ref mr, .int (nI rc), .ref mh, .ref mw, .ref mi, .ref mv, .ref mb, .ref ms, .ref mu, .ref mp, .ref mc, .ref mx, .ref mg, .ref ma, .int (nI tx)], aB E mt 800 (upd ta tn (sB (shr x 24)))]) 1 tn rfl rfl (by omega) (by omega) (sB_nar _) rfl dM_put_19 ?_
  refine j_aload_n hg 1 dM_put_20 rfl rfl ?_
  refine j_dup hg dM_put_21 rfl ?_
  refine j_get hg (C := RX4) (T := TX4) (N := 21) inX4 0 rfl rfl 1 (by decide) m329 rfl dM_put_22 ?_
  refine j_iconst hg (v := 1) dM_put_25 (by decide) ?_
  refine j_iadd hg (v := nI (tn + 1)) dM_put_26 (nI_add tn 1) ?_
  refine j_put hg (C := RX4) (T := TX4) (N := 21) (ty := .int) (ws' := [ob h 4 [.ref mt, .int (nI (tn + 1)), .ref mo, .int (nI on), .ref mk, .ref mn, .ref mr, .int (nI rc), .ref mh, .ref mw, .ref mi, .ref mv, .ref mb, .ref ms, .ref mu, .ref mp, .ref mc, .ref mx, .ref mg, .ref ma, .int (nI tx)], aB E mt 800 (upd ta tn (sB (shr x 24)))]) inX4 tyX4 tyX4_ok nmX4 0 rfl rfl 1 (by decide) m329 rfl (by decide +kernel) rfl rfl (Nat.le_of_ble_eq_true rfl) rfl dM_put_27 ?_
  refine j_iinc hg (kq := 0) (v := 16) (lv' := [(2, .int 16), (0, .ref h), (1, .int x)]) dM_put_30 rfl (by decide) (by decide) rfl ?_
  refine j_goto hg (tgt := 3) dM_put_33 (by decide) ?_
  refine j_iload_n hg 0 dM_put_3 rfl rfl ?_
  refine j_zlt_f hg (tgt := 36) 16 rfl (by omega) (by omega) dM_put_4 (by decide) ?_
  refine j_aload_n hg 1 dM_put_7 rfl rfl ?_
  refine j_get hg (C := RX4) (T := TX4) (N := 21) inX4 0 rfl rfl 0 (by decide) m328 rfl dM_put_8 ?_
  refine j_aload_n hg 1 dM_put_11 rfl rfl ?_
  refine j_get hg (C := RX4) (T := TX4) (N := 21) inX4 0 rfl rfl 1 (by decide) m329 rfl dM_put_12 ?_
  refine j_iload_n hg 2 dM_put_15 rfl rfl ?_
  refine j_iload_n hg 0 dM_put_16 rfl rfl ?_
  refine j_ishr hg (v := shr x 16) dM_put_17 rfl ?_
  refine j_i2b hg (v := sB (shr x 16)) dM_put_18 rfl ?_
  refine j_bast hg (ws' := [ob h 4 [.ref mt, .int (nI (tn + 1)), .ref mo, .int (nI on), .ref mk, .ref mn, .ref mr, .int (nI rc), .ref mh, .ref mw, .ref mi, .ref mv, .ref mb, .ref ms, .ref mu, .ref mp, .ref mc, .ref mx, .ref mg, .ref ma, .int (nI tx)], aB E mt 800 (upd (upd ta tn (sB (shr x 24))) (tn + 1) (sB (shr x 16)))]) 1 (tn + 1) rfl rfl (by omega) (by omega) (sB_nar _) rfl dM_put_19 ?_
  refine j_aload_n hg 1 dM_put_20 rfl rfl ?_
  refine j_dup hg dM_put_21 rfl ?_
  refine j_get hg (C := RX4) (T := TX4) (N := 21) inX4 0 rfl rfl 1 (by decide) m329 rfl dM_put_22 ?_
  refine j_iconst hg (v := 1) dM_put_25 (by decide) ?_
  refine j_iadd hg (v := nI (tn + 1 + 1)) dM_put_26 (nI_add (tn + 1) 1) ?_
  refine j_put hg (C := RX4) (T := TX4) (N := 21) (ty := .int) (ws' := [ob h 4 [.ref mt, .int (nI (tn + 1 + 1)), .ref mo, .int (nI on), .ref mk, .ref mn, .ref mr, .int (nI rc), .ref mh, .ref mw, .ref mi, .ref mv, .ref mb, .ref ms, .ref mu, .ref mp, .ref mc, .ref mx, .ref mg, .ref ma, .int (nI tx)], aB E mt 800 (upd (upd ta tn (sB (shr x 24))) (tn + 1) (sB (shr x 16)))]) inX4 tyX4 tyX4_ok nmX4 0 rfl rfl 1 (by decide) m329 rfl (by decide +kernel) rfl rfl (Nat.le_of_ble_eq_true rfl) rfl dM_put_27 ?_
  refine j_iinc hg (kq := 0) (v := 8) (lv' := [(2, .int 8), (0, .ref h), (1, .int x)]) dM_put_30 rfl (by decide) (by decide) rfl ?_
  refine j_goto hg (tgt := 3) dM_put_33 (by decide) ?_
  refine j_iload_n hg 0 dM_put_3 rfl rfl ?_
  refine j_zlt_f hg (tgt := 36) 8 rfl (by omega) (by omega) dM_put_4 (by decide) ?_
  refine j_aload_n hg 1 dM_put_7 rfl rfl ?_
  refine j_get hg (C := RX4) (T := TX4) (N := 21) inX4 0 rfl rfl 0 (by decide) m328 rfl dM_put_8 ?_
  refine j_aload_n hg 1 dM_put_11 rfl rfl ?_
  refine j_get hg (C := RX4) (T := TX4) (N := 21) inX4 0 rfl rfl 1 (by decide) m329 rfl dM_put_12 ?_
  refine j_iload_n hg 2 dM_put_15 rfl rfl ?_
  refine j_iload_n hg 0 dM_put_16 rfl rfl ?_
  refine j_ishr hg (v := shr x 8) dM_put_17 rfl ?_
  refine j_i2b hg (v := sB (shr x 8)) dM_put_18 rfl ?_
  refine j_bast hg (ws' := [ob h 4 [.ref mt, .int (nI (tn + 1 + 1)), .ref mo, .int (nI on), .ref mk, .ref mn, .ref mr, .int (nI rc), .ref mh, .ref mw, .ref mi, .ref mv, .ref mb, .ref ms, .ref mu, .ref mp, .ref mc, .ref mx, .ref mg, .ref ma, .int (nI tx)], aB E mt 800 (upd (upd (upd ta tn (sB (shr x 24))) (tn + 1) (sB (shr x 16))) (tn + 1 + 1) (sB (shr x 8)))]) 1 (tn + 1 + 1) rfl rfl (by omega) (by omega) (sB_nar _) rfl dM_put_19 ?_
  refine j_aload_n hg 1 dM_put_20 rfl rfl ?_
  refine j_dup hg dM_put_21 rfl ?_
  refine j_get hg (C := RX4) (T := TX4) (N := 21) inX4 0 rfl rfl 1 (by decide) m329 rfl dM_put_22 ?_
  refine j_iconst hg (v := 1) dM_put_25 (by decide) ?_
  refine j_iadd hg (v := nI (tn + 1 + 1 + 1)) dM_put_26 (nI_add (tn + 1 + 1) 1) ?_
  refine j_put hg (C := RX4) (T := TX4) (N := 21) (ty := .int) (ws' := [ob h 4 [.ref mt, .int (nI (tn + 1 + 1 + 1)), .ref mo, .int (nI on), .ref mk, .ref mn, .ref mr, .int (nI rc), .ref mh, .ref mw, .ref mi, .ref mv, .ref mb, .ref ms, .ref mu, .ref mp, .ref mc, .ref mx, .ref mg, .ref ma, .int (nI tx)], aB E mt 800 (upd (upd (upd ta tn (sB (shr x 24))) (tn + 1) (sB (shr x 16))) (tn + 1 + 1) (sB (shr x 8)))]) inX4 tyX4 tyX4_ok nmX4 0 rfl rfl 1 (by decide) m329 rfl (by decide +kernel) rfl rfl (Nat.le_of_ble_eq_true rfl) rfl dM_put_27 ?_
  refine j_iinc hg (kq := 0) (v := 0) (lv' := [(2, .int 0), (0, .ref h), (1, .int x)]) dM_put_30 rfl (by decide) (by decide) rfl ?_
  refine j_goto hg (tgt := 3) dM_put_33 (by decide) ?_
  refine j_iload_n hg 0 dM_put_3 rfl rfl ?_
  refine j_zlt_f hg (tgt := 36) 0 rfl (by omega) (by omega) dM_put_4 (by decide) ?_
  refine j_aload_n hg 1 dM_put_7 rfl rfl ?_
  refine j_get hg (C := RX4) (T := TX4) (N := 21) inX4 0 rfl rfl 0 (by decide) m328 rfl dM_put_8 ?_
  refine j_aload_n hg 1 dM_put_11 rfl rfl ?_
  refine j_get hg (C := RX4) (T := TX4) (N := 21) inX4 0 rfl rfl 1 (by decide) m329 rfl dM_put_12 ?_
  refine j_iload_n hg 2 dM_put_15 rfl rfl ?_
  refine j_iload_n hg 0 dM_put_16 rfl rfl ?_
  refine j_ishr hg (v := shr x 0) dM_put_17 rfl ?_
  refine j_i2b hg (v := sB (shr x 0)) dM_put_18 rfl ?_
  refine j_bast hg (ws' := [ob h 4 [.ref mt, .int (nI (tn + 1 + 1 + 1)), .ref mo, .int (nI on), .ref mk, .ref mn, .ref mr, .int (nI rc), .ref mh, .ref mw, .ref mi, .ref mv, .ref mb, .ref ms, .ref mu, .ref mp, .ref mc, .ref mx, .ref mg, .ref ma, .int (nI tx)], aB E mt 800 (upd (upd (upd (upd ta tn (sB (shr x 24))) (tn + 1) (sB (shr x 16))) (tn + 1 + 1) (sB (shr x 8))) (tn + 1 + 1 + 1) (sB (shr x 0)))]) 1 (tn + 1 + 1 + 1) rfl rfl (by omega) (by omega) (sB_nar _) rfl dM_put_19 ?_
  refine j_aload_n hg 1 dM_put_20 rfl rfl ?_
  refine j_dup hg dM_put_21 rfl ?_
  refine j_get hg (C := RX4) (T := TX4) (N := 21) inX4 0 rfl rfl 1 (by decide) m329 rfl dM_put_22 ?_
  refine j_iconst hg (v := 1) dM_put_25 (by decide) ?_
  refine j_iadd hg (v := nI (tn + 1 + 1 + 1 + 1)) dM_put_26 (nI_add (tn + 1 + 1 + 1) 1) ?_
  refine j_put hg (C := RX4) (T := TX4) (N := 21) (ty := .int) (ws' := [ob h 4 [.ref mt, .int (nI (tn + 1 + 1 + 1 + 1)), .ref mo, .int (nI on), .ref mk, .ref mn, .ref mr, .int (nI rc), .ref mh, .ref mw, .ref mi, .ref mv, .ref mb, .ref ms, .ref mu, .ref mp, .ref mc, .ref mx, .ref mg, .ref ma, .int (nI tx)], aB E mt 800 (upd (upd (upd (upd ta tn (sB (shr x 24))) (tn + 1) (sB (shr x 16))) (tn + 1 + 1) (sB (shr x 8))) (tn + 1 + 1 + 1) (sB (shr x 0)))]) inX4 tyX4 tyX4_ok nmX4 0 rfl rfl 1 (by decide) m329 rfl (by decide +kernel) rfl rfl (Nat.le_of_ble_eq_true rfl) rfl dM_put_27 ?_
  refine j_iinc hg (kq := 0) (v := -8) (lv' := [(2, .int (-8)), (0, .ref h), (1, .int x)]) dM_put_30 rfl (by decide) (by decide) rfl ?_
  refine j_goto hg (tgt := 3) dM_put_33 (by decide) ?_
  refine j_iload_n hg 0 dM_put_3 rfl rfl ?_
  refine j_if_lt hg (tgt := 36) dM_put_4 (by decide) (fun _ => ?_) (fun h => absurd (by decide) h)
  exact j_vret hg hR () trivial rfl [0, 1] rfl (by decide) (by decide) (by decide) dM_put_36
