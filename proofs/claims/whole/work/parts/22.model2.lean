/-! The reference's SHA-256. -/
def bsel (row : Nat → Int32) (n wh_ p : Nat) : Int32 := if p < n then row p &&& 255 else if p = n then 128 else if wh_ - 4 ≤ p then shr (nI (8 * n)) (nI (8 * (wh_ - 1 - p))) &&& 255 else 0
def wx (row : Nat → Int32) (n wh_ at_ k : Nat) : Nat → Int64
  | 0 => 0
  | i + 1 => lshl (wx row n wh_ at_ k i) 8 ||| (bsel row n wh_ (at_ + 4 * k + i)).toInt64
def wl16 (row : Nat → Int32) (n wh_ at_ : Nat) (w : Nat → Int64) : Nat → Nat → Int64
  | 0 => w
  | k + 1 => vp_updL (wl16 row n wh_ at_ w k) k (wx row n wh_ at_ k 4)
def mext (w : Nat → Int64) (k : Nat) : Nat → Int64 := vp_updL w k ((w (k - 16) + (mtn (w (k - 15)) 7 ^^^ mtn (w (k - 15)) 18 ^^^ lshr (w (k - 15)) 3) + w (k - 7) + (mtn (w (k - 2)) 17 ^^^ mtn (w (k - 2)) 19 ^^^ lshr (w (k - 2)) 10)) &&& 4294967295)
def ws48 (w : Nat → Int64) : Nat → Nat → Int64
  | 0 => w
  | i + 1 => mext (ws48 w i) (16 + i)
abbrev R8 : Type := Int64 × Int64 × Int64 × Int64 × Int64 × Int64 × Int64 × Int64
def r8x (x : R8) (k : Int32) (w : Int64) : Int64 := x.2.2.2.2.2.2.2 + (mtn x.2.2.2.2.1 6 ^^^ mtn x.2.2.2.2.1 11 ^^^ mtn x.2.2.2.2.1 25) + ((x.2.2.2.2.1 &&& x.2.2.2.2.2.1) ||| ((4294967295 - x.2.2.2.2.1) &&& x.2.2.2.2.2.2.1)) + (k.toInt64 &&& 4294967295) + w
def r8y (x : R8) : Int64 := (mtn x.1 2 ^^^ mtn x.1 13 ^^^ mtn x.1 22) + ((x.1 &&& x.2.1) ||| (x.1 &&& x.2.2.1) ||| (x.2.1 &&& x.2.2.1))
def r8 (x : R8) (k : Int32) (w : Int64) : R8 := ((r8x x k w + r8y x) &&& 4294967295, x.1, x.2.1, x.2.2.1, (x.2.2.2.1 + r8x x k w) &&& 4294967295, x.2.2.2.2.1, x.2.2.2.2.2.1, x.2.2.2.2.2.2.1)
def rs (x : R8) (w : Nat → Int64) : Nat → R8
  | 0 => x
  | k + 1 => r8 (rs x w k) (tROUND k) (w k)
def r80 (h : Nat → Int64) : R8 := (h 0, h 1, h 2, h 3, h 4, h 5, h 6, h 7)
def hs1 (h : Nat → Int64) (j : Nat) (x : Int64) : Nat → Int64 := vp_updL h j ((h j + x) &&& 4294967295)
def hfin (h : Nat → Int64) (x : R8) : Nat → Int64 := hs1 (hs1 (hs1 (hs1 (hs1 (hs1 (hs1 (hs1 h 0 x.1) 1 x.2.1) 2 x.2.2.1) 3 x.2.2.2.1) 4 x.2.2.2.2.1) 5 x.2.2.2.2.2.1) 6 x.2.2.2.2.2.2.1) 7 x.2.2.2.2.2.2.2
def wF (row : Nat → Int32) (n wh_ at_ : Nat) (w : Nat → Int64) : Nat → Int64 := ws48 (wl16 row n wh_ at_ w 16) 48
abbrev H2 : Type := (Nat → Int64) × (Nat → Int64)
def hb0 (x : H2) (row : Nat → Int32) (n wh_ at_ : Nat) : H2 := (hfin x.1 (rs (r80 x.1) (wF row n wh_ at_ x.2) 64), wF row n wh_ at_ x.2)
noncomputable def hbF : H2 → (Nat → Int32) → Nat → Nat → Nat → H2 := Classical.choose (⟨hb0, rfl⟩ : ∃ F : H2 → (Nat → Int32) → Nat → Nat → Nat → H2, F = hb0)
theorem hbF_eq : hbF = hb0 := Classical.choose_spec (⟨hb0, rfl⟩ : ∃ F : H2 → (Nat → Int32) → Nat → Nat → Nat → H2, F = hb0)
noncomputable def hbs (x : H2) (row : Nat → Int32) (n wh_ : Nat) : Nat → H2
  | 0 => x
  | i + 1 => hbF (hbs x row n wh_ i) row n wh_ (64 * i)
def hb8 (h : Nat → Int64) : Nat → Nat → Int64
  | 0 => h
  | k + 1 => vp_updL (hb8 h k) k ((tBEGIN k).toInt64 &&& 4294967295)
def toF (to : Nat → Int32) (h : Nat → Int64) (at_ : Nat) : Nat → Nat → Int32
  | 0 => to
  | k + 1 => upd (toF to h at_ k) (at_ + k) (sB (lshr (h (k / 4)) (nI (24 - 8 * (k % 4)))).toInt32)
noncomputable def hsF (x : H2) (row : Nat → Int32) (rc : Nat) : H2 := hbs (hb8 x.1 8, x.2) row rc ((rc + 72) / 64 * 64) ((rc + 72) / 64)

def rm_M_hblock : Room := { frames := 1, cells := 0, slots := 0, locals := 22 }
set_option maxHeartbeats 1000000 in
set_option maxRecDepth 100000 in
theorem c_M_hblock (l : Launch) (E : Ev) (h mt mo mk mn mr mh mw mi mv mb ms mu mp mc mx mg ma : Nat) (tn on rc tx : Nat) (row : Nat → Int32) (x : H2) (k n whl : Nat) (h1 : k + 64 ≤ whl) (h2 : n ≤ 1024) (h3 : whl ≤ 100000) : MC E l yM_hblock (cT yM_hblock cM_hblock 25 none) rm_M_hblock [.ref h, .int (nI k), .int (nI n), .int (nI whl)] [ob h 4 [.ref mt, .int (nI tn), .ref mo, .int (nI on), .ref mk, .ref mn, .ref mr, .int (nI rc), .ref mh, .ref mw, .ref mi, .ref mv, .ref mb, .ref ms, .ref mu, .ref mp, .ref mc, .ref mx, .ref mg, .ref ma, .int (nI tx)], aB E mr 1024 row, aL E mh 8 x.1, aL E mw 64 x.2] Unit (fun _ => True) (fun _ => none) (fun _ => [ob h 4 [.ref mt, .int (nI tn), .ref mo, .int (nI on), .ref mk, .ref mn, .ref mr, .int (nI rc), .ref mh, .ref mw, .ref mi, .ref mv, .ref mb, .ref ms, .ref mu, .ref mp, .ref mc, .ref mx, .ref mg, .ref ma, .int (nI tx)], aB E mr 1024 row, aL E mh 8 ((hbF x row n whl k).1), aL E mw 64 ((hbF x row n whl k).2)]) := by
  refine MC.of (cc := cM_hblock) (nL := 25) (ret := none) (by decide) rfl cT_in (Nat.le_of_ble_eq_true rfl) (fun g hg hR => ?_)
  show J E 25 g [ob h 4 [.ref mt, .int (nI tn), .ref mo, .int (nI on), .ref mk, .ref mn, .ref mr, .int (nI rc), .ref mh, .ref mw, .ref mi, .ref mv, .ref mb, .ref ms, .ref mu, .ref mp, .ref mc, .ref mx, .ref mg, .ref ma, .int (nI tx)], aB E mr 1024 row, aL E mh 8 x.1, aL E mw 64 x.2] [(0, .ref h), (1, .int (nI k)), (2, .int (nI n)), (3, .int (nI whl))] 0 0 0 []
  refine j_iconst hg (v := 0) dM_hblock_0 (by decide) ?_
  refine j_istore hg (lv' := [(4, .int 0), (0, .ref h), (1, .int (nI k)), (2, .int (nI n)), (3, .int (nI whl))]) dM_hblock_1 (by decide) rfl ?_
  refine j_pick [1, 2, 3, 4, 0] (lv' := [(0, .ref h), (1, .int (nI k)), (2, .int (nI n)), (3, .int (nI whl)), (4, .int 0)]) rfl ?_
  have loop : ∀ (zk i : Nat), i + zk = 16 → J E 25 g [ob h 4 [.ref mt, .int (nI tn), .ref mo, .int (nI on), .ref mk, .ref mn, .ref mr, .int (nI rc), .ref mh, .ref mw, .ref mi, .ref mv, .ref mb, .ref ms, .ref mu, .ref mp, .ref mc, .ref mx, .ref mg, .ref ma, .int (nI tx)], aB E mr 1024 row, aL E mh 8 x.1, aL E mw 64 (wl16 row n whl k x.2 i)] [(0, .ref h), (1, .int (nI k)), (2, .int (nI n)), (3, .int (nI whl)), (4, .int (nI i))] 0 0 3 [] := by
    intro zk
    induction zk with
    | zero =>
      intro i  hi
      obtain rfl : 16 = i := by omega
      refine j_iload hg 4 dM_hblock_3 rfl ?_
      refine j_bipush hg (v := 16) dM_hblock_5 (by decide) ?_
      refine j_nge_t hg (tgt := 129) 16 16 rfl rfl (by omega) (by omega) (by omega) dM_hblock_7 (by decide) ?_
      refine j_bipush hg (v := 16) dM_hblock_129 (by decide) ?_
      refine j_istore hg (lv' := [(4, .int 16), (0, .ref h), (1, .int (nI k)), (2, .int (nI n)), (3, .int (nI whl))]) dM_hblock_131 (by decide) rfl ?_
      refine j_pick [1, 2, 3, 4, 0] (lv' := [(0, .ref h), (1, .int (nI k)), (2, .int (nI n)), (3, .int (nI whl)), (4, .int 16)]) rfl ?_
      have loop3 : ∀ (zk i : Nat), i + zk = 48 → J E 25 g [ob h 4 [.ref mt, .int (nI tn), .ref mo, .int (nI on), .ref mk, .ref mn, .ref mr, .int (nI rc), .ref mh, .ref mw, .ref mi, .ref mv, .ref mb, .ref ms, .ref mu, .ref mp, .ref mc, .ref mx, .ref mg, .ref ma, .int (nI tx)], aB E mr 1024 row, aL E mh 8 x.1, aL E mw 64 (ws48 (wl16 row n whl k x.2 16) i)] [(0, .ref h), (1, .int (nI k)), (2, .int (nI n)), (3, .int (nI whl)), (4, .int (nI (16 + i)))] 0 0 133 [] := by
        intro zk
        induction zk with
        | zero =>
          intro i  hi
          obtain rfl : 48 = i := by omega
          refine j_iload hg 4 dM_hblock_133 rfl ?_
          refine j_bipush hg (v := 64) dM_hblock_135 (by decide) ?_
          refine j_nge_t hg (tgt := 274) (16 + 48) 64 rfl rfl (by omega) (by omega) (by omega) dM_hblock_137 (by decide) ?_
          show J E 25 g [ob h 4 [.ref mt, .int (nI tn), .ref mo, .int (nI on), .ref mk, .ref mn, .ref mr, .int (nI rc), .ref mh, .ref mw, .ref mi, .ref mv, .ref mb, .ref ms, .ref mu, .ref mp, .ref mc, .ref mx, .ref mg, .ref ma, .int (nI tx)], aB E mr 1024 row, aL E mh 8 x.1, aL E mw 64 (wF row n whl k x.2)] [(0, .ref h), (1, .int (nI k)), (2, .int (nI n)), (3, .int (nI whl)), (4, .int (nI (16 + 48)))] 0 0 274 []
          refine j_aload_n hg 0 dM_hblock_274 rfl rfl ?_
          refine j_get hg (C := RX4) (T := TX4) (N := 21) inX4 0 rfl rfl 8 (by decide) m336 rfl dM_hblock_275 ?_
          refine j_iconst hg (v := 0) dM_hblock_278 (by decide) ?_
          refine j_lald hg (v := x.1 0) 2 0 rfl rfl (by omega) (by omega) rfl dM_hblock_279 ?_
          refine j_lstore hg (lv' := [(4, .long (x.1 0)), (0, .ref h), (1, .int (nI k)), (2, .int (nI n)), (3, .int (nI whl))]) dM_hblock_280 (by decide) rfl ?_
          refine j_aload_n hg 1 dM_hblock_282 rfl rfl ?_
          refine j_get hg (C := RX4) (T := TX4) (N := 21) inX4 0 rfl rfl 8 (by decide) m336 rfl dM_hblock_283 ?_
          refine j_iconst hg (v := 1) dM_hblock_286 (by decide) ?_
          refine j_lald hg (v := x.1 1) 2 1 rfl rfl (by omega) (by omega) rfl dM_hblock_287 ?_
          refine j_lstore hg (lv' := [(6, .long (x.1 1)), (4, .long (x.1 0)), (0, .ref h), (1, .int (nI k)), (2, .int (nI n)), (3, .int (nI whl))]) dM_hblock_288 (by decide) rfl ?_
          refine j_aload_n hg 2 dM_hblock_290 rfl rfl ?_
          refine j_get hg (C := RX4) (T := TX4) (N := 21) inX4 0 rfl rfl 8 (by decide) m336 rfl dM_hblock_291 ?_
          refine j_iconst hg (v := 2) dM_hblock_294 (by decide) ?_
          refine j_lald hg (v := x.1 2) 2 2 rfl rfl (by omega) (by omega) rfl dM_hblock_295 ?_
          refine j_lstore hg (lv' := [(8, .long (x.1 2)), (6, .long (x.1 1)), (4, .long (x.1 0)), (0, .ref h), (1, .int (nI k)), (2, .int (nI n)), (3, .int (nI whl))]) dM_hblock_296 (by decide) rfl ?_
          refine j_aload_n hg 3 dM_hblock_298 rfl rfl ?_
          refine j_get hg (C := RX4) (T := TX4) (N := 21) inX4 0 rfl rfl 8 (by decide) m336 rfl dM_hblock_299 ?_
          refine j_iconst hg (v := 3) dM_hblock_302 (by decide) ?_
          refine j_lald hg (v := x.1 3) 2 3 rfl rfl (by omega) (by omega) rfl dM_hblock_303 ?_
          refine j_lstore hg (lv' := [(10, .long (x.1 3)), (8, .long (x.1 2)), (6, .long (x.1 1)), (4, .long (x.1 0)), (0, .ref h), (1, .int (nI k)), (2, .int (nI n)), (3, .int (nI whl))]) dM_hblock_304 (by decide) rfl ?_
          refine j_aload_n hg 4 dM_hblock_306 rfl rfl ?_
          refine j_get hg (C := RX4) (T := TX4) (N := 21) inX4 0 rfl rfl 8 (by decide) m336 rfl dM_hblock_307 ?_
          refine j_iconst hg (v := 4) dM_hblock_310 (by decide) ?_
          refine j_lald hg (v := x.1 4) 2 4 rfl rfl (by omega) (by omega) rfl dM_hblock_311 ?_
          refine j_lstore hg (lv' := [(12, .long (x.1 4)), (10, .long (x.1 3)), (8, .long (x.1 2)), (6, .long (x.1 1)), (4, .long (x.1 0)), (0, .ref h), (1, .int (nI k)), (2, .int (nI n)), (3, .int (nI whl))]) dM_hblock_312 (by decide) rfl ?_
          refine j_aload_n hg 5 dM_hblock_314 rfl rfl ?_
          refine j_get hg (C := RX4) (T := TX4) (N := 21) inX4 0 rfl rfl 8 (by decide) m336 rfl dM_hblock_315 ?_
          refine j_iconst hg (v := 5) dM_hblock_318 (by decide) ?_
          refine j_lald hg (v := x.1 5) 2 5 rfl rfl (by omega) (by omega) rfl dM_hblock_319 ?_
          refine j_lstore hg (lv' := [(14, .long (x.1 5)), (12, .long (x.1 4)), (10, .long (x.1 3)), (8, .long (x.1 2)), (6, .long (x.1 1)), (4, .long (x.1 0)), (0, .ref h), (1, .int (nI k)), (2, .int (nI n)), (3, .int (nI whl))]) dM_hblock_320 (by decide) rfl ?_
          refine j_aload_n hg 6 dM_hblock_322 rfl rfl ?_
          refine j_get hg (C := RX4) (T := TX4) (N := 21) inX4 0 rfl rfl 8 (by decide) m336 rfl dM_hblock_323 ?_
          refine j_bipush hg (v := 6) dM_hblock_326 (by decide) ?_
          refine j_lald hg (v := x.1 6) 2 6 rfl rfl (by omega) (by omega) rfl dM_hblock_328 ?_
          refine j_lstore hg (lv' := [(16, .long (x.1 6)), (14, .long (x.1 5)), (12, .long (x.1 4)), (10, .long (x.1 3)), (8, .long (x.1 2)), (6, .long (x.1 1)), (4, .long (x.1 0)), (0, .ref h), (1, .int (nI k)), (2, .int (nI n)), (3, .int (nI whl))]) dM_hblock_329 (by decide) rfl ?_
          refine j_aload_n hg 7 dM_hblock_331 rfl rfl ?_
          refine j_get hg (C := RX4) (T := TX4) (N := 21) inX4 0 rfl rfl 8 (by decide) m336 rfl dM_hblock_332 ?_
          refine j_bipush hg (v := 7) dM_hblock_335 (by decide) ?_
          refine j_lald hg (v := x.1 7) 2 7 rfl rfl (by omega) (by omega) rfl dM_hblock_337 ?_
          refine j_lstore hg (lv' := [(18, .long (x.1 7)), (16, .long (x.1 6)), (14, .long (x.1 5)), (12, .long (x.1 4)), (10, .long (x.1 3)), (8, .long (x.1 2)), (6, .long (x.1 1)), (4, .long (x.1 0)), (0, .ref h), (1, .int (nI k)), (2, .int (nI n)), (3, .int (nI whl))]) dM_hblock_338 (by decide) rfl ?_
          refine j_iconst hg (v := 0) dM_hblock_340 (by decide) ?_
          refine j_istore hg (lv' := [(20, .int 0), (18, .long (x.1 7)), (16, .long (x.1 6)), (14, .long (x.1 5)), (12, .long (x.1 4)), (10, .long (x.1 3)), (8, .long (x.1 2)), (6, .long (x.1 1)), (4, .long (x.1 0)), (0, .ref h), (1, .int (nI k)), (2, .int (nI n)), (3, .int (nI whl))]) dM_hblock_341 (by decide) rfl ?_
          refine j_pick [9, 8, 7, 6, 5, 4, 3, 2, 1, 0] (lv' := [(0, .ref h), (4, .long (x.1 0)), (6, .long (x.1 1)), (8, .long (x.1 2)), (10, .long (x.1 3)), (12, .long (x.1 4)), (14, .long (x.1 5)), (16, .long (x.1 6)), (18, .long (x.1 7)), (20, .int 0)]) rfl ?_
          have loop4 : ∀ (zk i : Nat), i + zk = 64 → J E 25 g [ob h 4 [.ref mt, .int (nI tn), .ref mo, .int (nI on), .ref mk, .ref mn, .ref mr, .int (nI rc), .ref mh, .ref mw, .ref mi, .ref mv, .ref mb, .ref ms, .ref mu, .ref mp, .ref mc, .ref mx, .ref mg, .ref ma, .int (nI tx)], aB E mr 1024 row, aL E mh 8 x.1, aL E mw 64 (wF row n whl k x.2)] [(0, .ref h), (4, .long ((rs (r80 x.1) (wF row n whl k x.2) i).1)), (6, .long ((rs (r80 x.1) (wF row n whl k x.2) i).2.1)), (8, .long ((rs (r80 x.1) (wF row n whl k x.2) i).2.2.1)), (10, .long ((rs (r80 x.1) (wF row n whl k x.2) i).2.2.2.1)), (12, .long ((rs (r80 x.1) (wF row n whl k x.2) i).2.2.2.2.1)), (14, .long ((rs (r80 x.1) (wF row n whl k x.2) i).2.2.2.2.2.1)), (16, .long ((rs (r80 x.1) (wF row n whl k x.2) i).2.2.2.2.2.2.1)), (18, .long ((rs (r80 x.1) (wF row n whl k x.2) i).2.2.2.2.2.2.2)), (20, .int (nI i))] 0 0 343 [] := by
            intro zk
            induction zk with
            | zero =>
              intro i  hi
              obtain rfl : 64 = i := by omega
              refine j_iload hg 9 dM_hblock_343 rfl ?_
              refine j_bipush hg (v := 64) dM_hblock_345 (by decide) ?_
              refine j_nge_t hg (tgt := 508) 64 64 rfl rfl (by omega) (by omega) (by omega) dM_hblock_347 (by decide) ?_
              rw [hbF_eq] at hR
              refine j_aload_n hg 0 dM_hblock_508 rfl rfl ?_
              refine j_get hg (C := RX4) (T := TX4) (N := 21) inX4 0 rfl rfl 8 (by decide) m336 rfl dM_hblock_509 ?_
              refine j_iconst hg (v := 0) dM_hblock_512 (by decide) ?_
              refine j_aload_n hg 0 dM_hblock_513 rfl rfl ?_
              refine j_get hg (C := RX4) (T := TX4) (N := 21) inX4 0 rfl rfl 8 (by decide) m336 rfl dM_hblock_514 ?_
              refine j_iconst hg (v := 0) dM_hblock_517 (by decide) ?_
              refine j_lald hg (v := x.1 0) 2 0 rfl rfl (by omega) (by omega) rfl dM_hblock_518 ?_
              refine j_lload hg 1 dM_hblock_519 rfl ?_
              refine j_ladd hg (v := (x.1 0) + ((rs (r80 x.1) (wF row n whl k x.2) 64).1)) dM_hblock_521 rfl ?_
              refine j_ldc2 hg (v := 4294967295) m496 dM_hblock_522 ?_
              refine j_land hg (v := ((x.1 0) + ((rs (r80 x.1) (wF row n whl k x.2) 64).1)) &&& 4294967295) dM_hblock_525 rfl ?_
              refine j_last hg (ws' := [ob h 4 [.ref mt, .int (nI tn), .ref mo, .int (nI on), .ref mk, .ref mn, .ref mr, .int (nI rc), .ref mh, .ref mw, .ref mi, .ref mv, .ref mb, .ref ms, .ref mu, .ref mp, .ref mc, .ref mx, .ref mg, .ref ma, .int (nI tx)], aB E mr 1024 row, aL E mh 8 (hs1 x.1 0 (rs (r80 x.1) (wF row n whl k x.2) 64).1), aL E mw 64 (wF row n whl k x.2)]) 2 0 rfl rfl (by omega) (by omega) rfl dM_hblock_526 ?_
              refine j_aload_n hg 0 dM_hblock_527 rfl rfl ?_
              refine j_get hg (C := RX4) (T := TX4) (N := 21) inX4 0 rfl rfl 8 (by decide) m336 rfl dM_hblock_528 ?_
              refine j_iconst hg (v := 1) dM_hblock_531 (by decide) ?_
              refine j_aload_n hg 0 dM_hblock_532 rfl rfl ?_
              refine j_get hg (C := RX4) (T := TX4) (N := 21) inX4 0 rfl rfl 8 (by decide) m336 rfl dM_hblock_533 ?_
              refine j_iconst hg (v := 1) dM_hblock_536 (by decide) ?_
              refine j_lald hg (v := (hs1 x.1 0 (rs (r80 x.1) (wF row n whl k x.2) 64).1) 1) 2 1 rfl rfl (by omega) (by omega) rfl dM_hblock_537 ?_
              refine j_lload hg 2 dM_hblock_538 rfl ?_
              refine j_ladd hg (v := ((hs1 x.1 0 (rs (r80 x.1) (wF row n whl k x.2) 64).1) 1) + ((rs (r80 x.1) (wF row n whl k x.2) 64).2.1)) dM_hblock_540 rfl ?_
              refine j_ldc2 hg (v := 4294967295) m496 dM_hblock_541 ?_
              refine j_land hg (v := (((hs1 x.1 0 (rs (r80 x.1) (wF row n whl k x.2) 64).1) 1) + ((rs (r80 x.1) (wF row n whl k x.2) 64).2.1)) &&& 4294967295) dM_hblock_544 rfl ?_
              refine j_last hg (ws' := [ob h 4 [.ref mt, .int (nI tn), .ref mo, .int (nI on), .ref mk, .ref mn, .ref mr, .int (nI rc), .ref mh, .ref mw, .ref mi, .ref mv, .ref mb, .ref ms, .ref mu, .ref mp, .ref mc, .ref mx, .ref mg, .ref ma, .int (nI tx)], aB E mr 1024 row, aL E mh 8 (hs1 (hs1 x.1 0 (rs (r80 x.1) (wF row n whl k x.2) 64).1) 1 (rs (r80 x.1) (wF row n whl k x.2) 64).2.1), aL E mw 64 (wF row n whl k x.2)]) 2 1 rfl rfl (by omega) (by omega) rfl dM_hblock_545 ?_
              refine j_aload_n hg 0 dM_hblock_546 rfl rfl ?_
              refine j_get hg (C := RX4) (T := TX4) (N := 21) inX4 0 rfl rfl 8 (by decide) m336 rfl dM_hblock_547 ?_
              refine j_iconst hg (v := 2) dM_hblock_550 (by decide) ?_
              refine j_aload_n hg 0 dM_hblock_551 rfl rfl ?_
              refine j_get hg (C := RX4) (T := TX4) (N := 21) inX4 0 rfl rfl 8 (by decide) m336 rfl dM_hblock_552 ?_
              refine j_iconst hg (v := 2) dM_hblock_555 (by decide) ?_
              refine j_lald hg (v := (hs1 (hs1 x.1 0 (rs (r80 x.1) (wF row n whl k x.2) 64).1) 1 (rs (r80 x.1) (wF row n whl k x.2) 64).2.1) 2) 2 2 rfl rfl (by omega) (by omega) rfl dM_hblock_556 ?_
              refine j_lload hg 3 dM_hblock_557 rfl ?_
              refine j_ladd hg (v := ((hs1 (hs1 x.1 0 (rs (r80 x.1) (wF row n whl k x.2) 64).1) 1 (rs (r80 x.1) (wF row n whl k x.2) 64).2.1) 2) + ((rs (r80 x.1) (wF row n whl k x.2) 64).2.2.1)) dM_hblock_559 rfl ?_
              refine j_ldc2 hg (v := 4294967295) m496 dM_hblock_560 ?_
              refine j_land hg (v := (((hs1 (hs1 x.1 0 (rs (r80 x.1) (wF row n whl k x.2) 64).1) 1 (rs (r80 x.1) (wF row n whl k x.2) 64).2.1) 2) + ((rs (r80 x.1) (wF row n whl k x.2) 64).2.2.1)) &&& 4294967295) dM_hblock_563 rfl ?_
              refine j_last hg (ws' := [ob h 4 [.ref mt, .int (nI tn), .ref mo, .int (nI on), .ref mk, .ref mn, .ref mr, .int (nI rc), .ref mh, .ref mw, .ref mi, .ref mv, .ref mb, .ref ms, .ref mu, .ref mp, .ref mc, .ref mx, .ref mg, .ref ma, .int (nI tx)], aB E mr 1024 row, aL E mh 8 (hs1 (hs1 (hs1 x.1 0 (rs (r80 x.1) (wF row n whl k x.2) 64).1) 1 (rs (r80 x.1) (wF row n whl k x.2) 64).2.1) 2 (rs (r80 x.1) (wF row n whl k x.2) 64).2.2.1), aL E mw 64 (wF row n whl k x.2)]) 2 2 rfl rfl (by omega) (by omega) rfl dM_hblock_564 ?_
              refine j_aload_n hg 0 dM_hblock_565 rfl rfl ?_
              refine j_get hg (C := RX4) (T := TX4) (N := 21) inX4 0 rfl rfl 8 (by decide) m336 rfl dM_hblock_566 ?_
              refine j_iconst hg (v := 3) dM_hblock_569 (by decide) ?_
              refine j_aload_n hg 0 dM_hblock_570 rfl rfl ?_
              refine j_get hg (C := RX4) (T := TX4) (N := 21) inX4 0 rfl rfl 8 (by decide) m336 rfl dM_hblock_571 ?_
              refine j_iconst hg (v := 3) dM_hblock_574 (by decide) ?_
              refine j_lald hg (v := (hs1 (hs1 (hs1 x.1 0 (rs (r80 x.1) (wF row n whl k x.2) 64).1) 1 (rs (r80 x.1) (wF row n whl k x.2) 64).2.1) 2 (rs (r80 x.1) (wF row n whl k x.2) 64).2.2.1) 3) 2 3 rfl rfl (by omega) (by omega) rfl dM_hblock_575 ?_
              refine j_lload hg 4 dM_hblock_576 rfl ?_
              refine j_ladd hg (v := ((hs1 (hs1 (hs1 x.1 0 (rs (r80 x.1) (wF row n whl k x.2) 64).1) 1 (rs (r80 x.1) (wF row n whl k x.2) 64).2.1) 2 (rs (r80 x.1) (wF row n whl k x.2) 64).2.2.1) 3) + ((rs (r80 x.1) (wF row n whl k x.2) 64).2.2.2.1)) dM_hblock_578 rfl ?_
              refine j_ldc2 hg (v := 4294967295) m496 dM_hblock_579 ?_
              refine j_land hg (v := (((hs1 (hs1 (hs1 x.1 0 (rs (r80 x.1) (wF row n whl k x.2) 64).1) 1 (rs (r80 x.1) (wF row n whl k x.2) 64).2.1) 2 (rs (r80 x.1) (wF row n whl k x.2) 64).2.2.1) 3) + ((rs (r80 x.1) (wF row n whl k x.2) 64).2.2.2.1)) &&& 4294967295) dM_hblock_582 rfl ?_
              refine j_last hg (ws' := [ob h 4 [.ref mt, .int (nI tn), .ref mo, .int (nI on), .ref mk, .ref mn, .ref mr, .int (nI rc), .ref mh, .ref mw, .ref mi, .ref mv, .ref mb, .ref ms, .ref mu, .ref mp, .ref mc, .ref mx, .ref mg, .ref ma, .int (nI tx)], aB E mr 1024 row, aL E mh 8 (hs1 (hs1 (hs1 (hs1 x.1 0 (rs (r80 x.1) (wF row n whl k x.2) 64).1) 1 (rs (r80 x.1) (wF row n whl k x.2) 64).2.1) 2 (rs (r80 x.1) (wF row n whl k x.2) 64).2.2.1) 3 (rs (r80 x.1) (wF row n whl k x.2) 64).2.2.2.1), aL E mw 64 (wF row n whl k x.2)]) 2 3 rfl rfl (by omega) (by omega) rfl dM_hblock_583 ?_
              refine j_aload_n hg 0 dM_hblock_584 rfl rfl ?_
              refine j_get hg (C := RX4) (T := TX4) (N := 21) inX4 0 rfl rfl 8 (by decide) m336 rfl dM_hblock_585 ?_
              refine j_iconst hg (v := 4) dM_hblock_588 (by decide) ?_
              refine j_aload_n hg 0 dM_hblock_589 rfl rfl ?_
              refine j_get hg (C := RX4) (T := TX4) (N := 21) inX4 0 rfl rfl 8 (by decide) m336 rfl dM_hblock_590 ?_
              refine j_iconst hg (v := 4) dM_hblock_593 (by decide) ?_
              refine j_lald hg (v := (hs1 (hs1 (hs1 (hs1 x.1 0 (rs (r80 x.1) (wF row n whl k x.2) 64).1) 1 (rs (r80 x.1) (wF row n whl k x.2) 64).2.1) 2 (rs (r80 x.1) (wF row n whl k x.2) 64).2.2.1) 3 (rs (r80 x.1) (wF row n whl k x.2) 64).2.2.2.1) 4) 2 4 rfl rfl (by omega) (by omega) rfl dM_hblock_594 ?_
              refine j_lload hg 5 dM_hblock_595 rfl ?_
              refine j_ladd hg (v := ((hs1 (hs1 (hs1 (hs1 x.1 0 (rs (r80 x.1) (wF row n whl k x.2) 64).1) 1 (rs (r80 x.1) (wF row n whl k x.2) 64).2.1) 2 (rs (r80 x.1) (wF row n whl k x.2) 64).2.2.1) 3 (rs (r80 x.1) (wF row n whl k x.2) 64).2.2.2.1) 4) + ((rs (r80 x.1) (wF row n whl k x.2) 64).2.2.2.2.1)) dM_hblock_597 rfl ?_
              refine j_ldc2 hg (v := 4294967295) m496 dM_hblock_598 ?_
              refine j_land hg (v := (((hs1 (hs1 (hs1 (hs1 x.1 0 (rs (r80 x.1) (wF row n whl k x.2) 64).1) 1 (rs (r80 x.1) (wF row n whl k x.2) 64).2.1) 2 (rs (r80 x.1) (wF row n whl k x.2) 64).2.2.1) 3 (rs (r80 x.1) (wF row n whl k x.2) 64).2.2.2.1) 4) + ((rs (r80 x.1) (wF row n whl k x.2) 64).2.2.2.2.1)) &&& 4294967295) dM_hblock_601 rfl ?_
              refine j_last hg (ws' := [ob h 4 [.ref mt, .int (nI tn), .ref mo, .int (nI on), .ref mk, .ref mn, .ref mr, .int (nI rc), .ref mh, .ref mw, .ref mi, .ref mv, .ref mb, .ref ms, .ref mu, .ref mp, .ref mc, .ref mx, .ref mg, .ref ma, .int (nI tx)], aB E mr 1024 row, aL E mh 8 (hs1 (hs1 (hs1 (hs1 (hs1 x.1 0 (rs (r80 x.1) (wF row n whl k x.2) 64).1) 1 (rs (r80 x.1) (wF row n whl k x.2) 64).2.1) 2 (rs (r80 x.1) (wF row n whl k x.2) 64).2.2.1) 3 (rs (r80 x.1) (wF row n whl k x.2) 64).2.2.2.1) 4 (rs (r80 x.1) (wF row n whl k x.2) 64).2.2.2.2.1), aL E mw 64 (wF row n whl k x.2)]) 2 4 rfl rfl (by omega) (by omega) rfl dM_hblock_602 ?_
              refine j_aload_n hg 0 dM_hblock_603 rfl rfl ?_
              refine j_get hg (C := RX4) (T := TX4) (N := 21) inX4 0 rfl rfl 8 (by decide) m336 rfl dM_hblock_604 ?_
              refine j_iconst hg (v := 5) dM_hblock_607 (by decide) ?_
              refine j_aload_n hg 0 dM_hblock_608 rfl rfl ?_
              refine j_get hg (C := RX4) (T := TX4) (N := 21) inX4 0 rfl rfl 8 (by decide) m336 rfl dM_hblock_609 ?_
              refine j_iconst hg (v := 5) dM_hblock_612 (by decide) ?_
              refine j_lald hg (v := (hs1 (hs1 (hs1 (hs1 (hs1 x.1 0 (rs (r80 x.1) (wF row n whl k x.2) 64).1) 1 (rs (r80 x.1) (wF row n whl k x.2) 64).2.1) 2 (rs (r80 x.1) (wF row n whl k x.2) 64).2.2.1) 3 (rs (r80 x.1) (wF row n whl k x.2) 64).2.2.2.1) 4 (rs (r80 x.1) (wF row n whl k x.2) 64).2.2.2.2.1) 5) 2 5 rfl rfl (by omega) (by omega) rfl dM_hblock_613 ?_
              refine j_lload hg 6 dM_hblock_614 rfl ?_
              refine j_ladd hg (v := ((hs1 (hs1 (hs1 (hs1 (hs1 x.1 0 (rs (r80 x.1) (wF row n whl k x.2) 64).1) 1 (rs (r80 x.1) (wF row n whl k x.2) 64).2.1) 2 (rs (r80 x.1) (wF row n whl k x.2) 64).2.2.1) 3 (rs (r80 x.1) (wF row n whl k x.2) 64).2.2.2.1) 4 (rs (r80 x.1) (wF row n whl k x.2) 64).2.2.2.2.1) 5) + ((rs (r80 x.1) (wF row n whl k x.2) 64).2.2.2.2.2.1)) dM_hblock_616 rfl ?_
              refine j_ldc2 hg (v := 4294967295) m496 dM_hblock_617 ?_
              refine j_land hg (v := (((hs1 (hs1 (hs1 (hs1 (hs1 x.1 0 (rs (r80 x.1) (wF row n whl k x.2) 64).1) 1 (rs (r80 x.1) (wF row n whl k x.2) 64).2.1) 2 (rs (r80 x.1) (wF row n whl k x.2) 64).2.2.1) 3 (rs (r80 x.1) (wF row n whl k x.2) 64).2.2.2.1) 4 (rs (r80 x.1) (wF row n whl k x.2) 64).2.2.2.2.1) 5) + ((rs (r80 x.1) (wF row n whl k x.2) 64).2.2.2.2.2.1)) &&& 4294967295) dM_hblock_620 rfl ?_
              refine j_last hg (ws' := [ob h 4 [.ref mt, .int (nI tn), .ref mo, .int (nI on), .ref mk, .ref mn, .ref mr, .int (nI rc), .ref mh, .ref mw, .ref mi, .ref mv, .ref mb, .ref ms, .ref mu, .ref mp, .ref mc, .ref mx, .ref mg, .ref ma, .int (nI tx)], aB E mr 1024 row, aL E mh 8 (hs1 (hs1 (hs1 (hs1 (hs1 (hs1 x.1 0 (rs (r80 x.1) (wF row n whl k x.2) 64).1) 1 (rs (r80 x.1) (wF row n whl k x.2) 64).2.1) 2 (rs (r80 x.1) (wF row n whl k x.2) 64).2.2.1) 3 (rs (r80 x.1) (wF row n whl k x.2) 64).2.2.2.1) 4 (rs (r80 x.1) (wF row n whl k x.2) 64).2.2.2.2.1) 5 (rs (r80 x.1) (wF row n whl k x.2) 64).2.2.2.2.2.1), aL E mw 64 (wF row n whl k x.2)]) 2 5 rfl rfl (by omega) (by omega) rfl dM_hblock_621 ?_
              refine j_aload_n hg 0 dM_hblock_622 rfl rfl ?_
              refine j_get hg (C := RX4) (T := TX4) (N := 21) inX4 0 rfl rfl 8 (by decide) m336 rfl dM_hblock_623 ?_
              refine j_bipush hg (v := 6) dM_hblock_626 (by decide) ?_
              refine j_aload_n hg 0 dM_hblock_628 rfl rfl ?_
              refine j_get hg (C := RX4) (T := TX4) (N := 21) inX4 0 rfl rfl 8 (by decide) m336 rfl dM_hblock_629 ?_
              refine j_bipush hg (v := 6) dM_hblock_632 (by decide) ?_
              refine j_lald hg (v := (hs1 (hs1 (hs1 (hs1 (hs1 (hs1 x.1 0 (rs (r80 x.1) (wF row n whl k x.2) 64).1) 1 (rs (r80 x.1) (wF row n whl k x.2) 64).2.1) 2 (rs (r80 x.1) (wF row n whl k x.2) 64).2.2.1) 3 (rs (r80 x.1) (wF row n whl k x.2) 64).2.2.2.1) 4 (rs (r80 x.1) (wF row n whl k x.2) 64).2.2.2.2.1) 5 (rs (r80 x.1) (wF row n whl k x.2) 64).2.2.2.2.2.1) 6) 2 6 rfl rfl (by omega) (by omega) rfl dM_hblock_634 ?_
              refine j_lload hg 7 dM_hblock_635 rfl ?_
              refine j_ladd hg (v := ((hs1 (hs1 (hs1 (hs1 (hs1 (hs1 x.1 0 (rs (r80 x.1) (wF row n whl k x.2) 64).1) 1 (rs (r80 x.1) (wF row n whl k x.2) 64).2.1) 2 (rs (r80 x.1) (wF row n whl k x.2) 64).2.2.1) 3 (rs (r80 x.1) (wF row n whl k x.2) 64).2.2.2.1) 4 (rs (r80 x.1) (wF row n whl k x.2) 64).2.2.2.2.1) 5 (rs (r80 x.1) (wF row n whl k x.2) 64).2.2.2.2.2.1) 6) + ((rs (r80 x.1) (wF row n whl k x.2) 64).2.2.2.2.2.2.1)) dM_hblock_637 rfl ?_
              refine j_ldc2 hg (v := 4294967295) m496 dM_hblock_638 ?_
              refine j_land hg (v := (((hs1 (hs1 (hs1 (hs1 (hs1 (hs1 x.1 0 (rs (r80 x.1) (wF row n whl k x.2) 64).1) 1 (rs (r80 x.1) (wF row n whl k x.2) 64).2.1) 2 (rs (r80 x.1) (wF row n whl k x.2) 64).2.2.1) 3 (rs (r80 x.1) (wF row n whl k x.2) 64).2.2.2.1) 4 (rs (r80 x.1) (wF row n whl k x.2) 64).2.2.2.2.1) 5 (rs (r80 x.1) (wF row n whl k x.2) 64).2.2.2.2.2.1) 6) + ((rs (r80 x.1) (wF row n whl k x.2) 64).2.2.2.2.2.2.1)) &&& 4294967295) dM_hblock_641 rfl ?_
              refine j_last hg (ws' := [ob h 4 [.ref mt, .int (nI tn), .ref mo, .int (nI on), .ref mk, .ref mn, .ref mr, .int (nI rc), .ref mh, .ref mw, .ref mi, .ref mv, .ref mb, .ref ms, .ref mu, .ref mp, .ref mc, .ref mx, .ref mg, .ref ma, .int (nI tx)], aB E mr 1024 row, aL E mh 8 (hs1 (hs1 (hs1 (hs1 (hs1 (hs1 (hs1 x.1 0 (rs (r80 x.1) (wF row n whl k x.2) 64).1) 1 (rs (r80 x.1) (wF row n whl k x.2) 64).2.1) 2 (rs (r80 x.1) (wF row n whl k x.2) 64).2.2.1) 3 (rs (r80 x.1) (wF row n whl k x.2) 64).2.2.2.1) 4 (rs (r80 x.1) (wF row n whl k x.2) 64).2.2.2.2.1) 5 (rs (r80 x.1) (wF row n whl k x.2) 64).2.2.2.2.2.1) 6 (rs (r80 x.1) (wF row n whl k x.2) 64).2.2.2.2.2.2.1), aL E mw 64 (wF row n whl k x.2)]) 2 6 rfl rfl (by omega) (by omega) rfl dM_hblock_642 ?_
              refine j_aload_n hg 0 dM_hblock_643 rfl rfl ?_
              refine j_get hg (C := RX4) (T := TX4) (N := 21) inX4 0 rfl rfl 8 (by decide) m336 rfl dM_hblock_644 ?_
              refine j_bipush hg (v := 7) dM_hblock_647 (by decide) ?_
              refine j_aload_n hg 0 dM_hblock_649 rfl rfl ?_
              refine j_get hg (C := RX4) (T := TX4) (N := 21) inX4 0 rfl rfl 8 (by decide) m336 rfl dM_hblock_650 ?_
              refine j_bipush hg (v := 7) dM_hblock_653 (by decide) ?_
              refine j_lald hg (v := (hs1 (hs1 (hs1 (hs1 (hs1 (hs1 (hs1 x.1 0 (rs (r80 x.1) (wF row n whl k x.2) 64).1) 1 (rs (r80 x.1) (wF row n whl k x.2) 64).2.1) 2 (rs (r80 x.1) (wF row n whl k x.2) 64).2.2.1) 3 (rs (r80 x.1) (wF row n whl k x.2) 64).2.2.2.1) 4 (rs (r80 x.1) (wF row n whl k x.2) 64).2.2.2.2.1) 5 (rs (r80 x.1) (wF row n whl k x.2) 64).2.2.2.2.2.1) 6 (rs (r80 x.1) (wF row n whl k x.2) 64).2.2.2.2.2.2.1) 7) 2 7 rfl rfl (by omega) (by omega) rfl dM_hblock_655 ?_
              refine j_lload hg 8 dM_hblock_656 rfl ?_
              refine j_ladd hg (v := ((hs1 (hs1 (hs1 (hs1 (hs1 (hs1 (hs1 x.1 0 (rs (r80 x.1) (wF row n whl k x.2) 64).1) 1 (rs (r80 x.1) (wF row n whl k x.2) 64).2.1) 2 (rs (r80 x.1) (wF row n whl k x.2) 64).2.2.1) 3 (rs (r80 x.1) (wF row n whl k x.2) 64).2.2.2.1) 4 (rs (r80 x.1) (wF row n whl k x.2) 64).2.2.2.2.1) 5 (rs (r80 x.1) (wF row n whl k x.2) 64).2.2.2.2.2.1) 6 (rs (r80 x.1) (wF row n whl k x.2) 64).2.2.2.2.2.2.1) 7) + ((rs (r80 x.1) (wF row n whl k x.2) 64).2.2.2.2.2.2.2)) dM_hblock_658 rfl ?_
              refine j_ldc2 hg (v := 4294967295) m496 dM_hblock_659 ?_
              refine j_land hg (v := (((hs1 (hs1 (hs1 (hs1 (hs1 (hs1 (hs1 x.1 0 (rs (r80 x.1) (wF row n whl k x.2) 64).1) 1 (rs (r80 x.1) (wF row n whl k x.2) 64).2.1) 2 (rs (r80 x.1) (wF row n whl k x.2) 64).2.2.1) 3 (rs (r80 x.1) (wF row n whl k x.2) 64).2.2.2.1) 4 (rs (r80 x.1) (wF row n whl k x.2) 64).2.2.2.2.1) 5 (rs (r80 x.1) (wF row n whl k x.2) 64).2.2.2.2.2.1) 6 (rs (r80 x.1) (wF row n whl k x.2) 64).2.2.2.2.2.2.1) 7) + ((rs (r80 x.1) (wF row n whl k x.2) 64).2.2.2.2.2.2.2)) &&& 4294967295) dM_hblock_662 rfl ?_
              refine j_last hg (ws' := [ob h 4 [.ref mt, .int (nI tn), .ref mo, .int (nI on), .ref mk, .ref mn, .ref mr, .int (nI rc), .ref mh, .ref mw, .ref mi, .ref mv, .ref mb, .ref ms, .ref mu, .ref mp, .ref mc, .ref mx, .ref mg, .ref ma, .int (nI tx)], aB E mr 1024 row, aL E mh 8 (hs1 (hs1 (hs1 (hs1 (hs1 (hs1 (hs1 (hs1 x.1 0 (rs (r80 x.1) (wF row n whl k x.2) 64).1) 1 (rs (r80 x.1) (wF row n whl k x.2) 64).2.1) 2 (rs (r80 x.1) (wF row n whl k x.2) 64).2.2.1) 3 (rs (r80 x.1) (wF row n whl k x.2) 64).2.2.2.1) 4 (rs (r80 x.1) (wF row n whl k x.2) 64).2.2.2.2.1) 5 (rs (r80 x.1) (wF row n whl k x.2) 64).2.2.2.2.2.1) 6 (rs (r80 x.1) (wF row n whl k x.2) 64).2.2.2.2.2.2.1) 7 (rs (r80 x.1) (wF row n whl k x.2) 64).2.2.2.2.2.2.2), aL E mw 64 (wF row n whl k x.2)]) 2 7 rfl rfl (by omega) (by omega) rfl dM_hblock_663 ?_
              exact j_vret hg hR () trivial rfl [0, 1, 2, 3] rfl (by decide) (by decide) (by decide) dM_hblock_664
            | succ zk ih =>
              intro i  hi
              refine j_iload hg 9 dM_hblock_343 rfl ?_
              refine j_bipush hg (v := 64) dM_hblock_345 (by decide) ?_
              refine j_nge_f hg (tgt := 508) i 64 rfl rfl (by omega) (by omega) (by omega) dM_hblock_347 (by decide) ?_
              refine j_lload hg 8 dM_hblock_350 rfl ?_
              refine j_lload hg 5 dM_hblock_352 rfl ?_
              refine j_bipush hg (v := 6) dM_hblock_354 (by decide) ?_
              refine j_callS hg (n := 2) (y := yM_turn) (rm := rm_M_turn) (Ws := (cT yM_turn cM_turn 3 (some .long))) (As := [.long ((rs (r80 x.1) (wF row n whl k x.2) i).2.2.2.2.1), .int 6]) (rest := [.long ((rs (r80 x.1) (wF row n whl k x.2) i).2.2.2.2.2.2.2)]) (wr := [ob h 4 [.ref mt, .int (nI tn), .ref mo, .int (nI on), .ref mk, .ref mn, .ref mr, .int (nI rc), .ref mh, .ref mw, .ref mi, .ref mv, .ref mb, .ref ms, .ref mu, .ref mp, .ref mc, .ref mx, .ref mg, .ref ma, .int (nI tx)], aB E mr 1024 row, aL E mh 8 x.1, aL E mw 64 (wF row n whl k x.2)]) (c_M_turn l E ((rs (r80 x.1) (wF row n whl k x.2) i).2.2.2.2.1) 6) (gdS m501 m502 m5 m503) rfl (by decide +kernel) ⟨by decide, by decide⟩ rfl rfl (Nat.le_of_ble_eq_true rfl) ⟨by decide, by decide⟩ [] [0, 1, 2, 3] rfl rfl (by decide) (by decide) (by decide) dM_hblock_356 (fun _ _ => ?_)
              show J E 25 g [ob h 4 [.ref mt, .int (nI tn), .ref mo, .int (nI on), .ref mk, .ref mn, .ref mr, .int (nI rc), .ref mh, .ref mw, .ref mi, .ref mv, .ref mb, .ref ms, .ref mu, .ref mp, .ref mc, .ref mx, .ref mg, .ref ma, .int (nI tx)], aB E mr 1024 row, aL E mh 8 x.1, aL E mw 64 (wF row n whl k x.2)] [(0, .ref h), (4, .long ((rs (r80 x.1) (wF row n whl k x.2) i).1)), (6, .long ((rs (r80 x.1) (wF row n whl k x.2) i).2.1)), (8, .long ((rs (r80 x.1) (wF row n whl k x.2) i).2.2.1)), (10, .long ((rs (r80 x.1) (wF row n whl k x.2) i).2.2.2.1)), (12, .long ((rs (r80 x.1) (wF row n whl k x.2) i).2.2.2.2.1)), (14, .long ((rs (r80 x.1) (wF row n whl k x.2) i).2.2.2.2.2.1)), (16, .long ((rs (r80 x.1) (wF row n whl k x.2) i).2.2.2.2.2.2.1)), (18, .long ((rs (r80 x.1) (wF row n whl k x.2) i).2.2.2.2.2.2.2)), (20, .int (nI i))] 0 0 359 [.long (mtn ((rs (r80 x.1) (wF row n whl k x.2) i).2.2.2.2.1) 6), .long ((rs (r80 x.1) (wF row n whl k x.2) i).2.2.2.2.2.2.2)]
              refine j_lload hg 5 dM_hblock_359 rfl ?_
              refine j_bipush hg (v := 11) dM_hblock_361 (by decide) ?_
              refine j_callS hg (n := 2) (y := yM_turn) (rm := rm_M_turn) (Ws := (cT yM_turn cM_turn 3 (some .long))) (As := [.long ((rs (r80 x.1) (wF row n whl k x.2) i).2.2.2.2.1), .int 11]) (rest := [.long (mtn ((rs (r80 x.1) (wF row n whl k x.2) i).2.2.2.2.1) 6), .long ((rs (r80 x.1) (wF row n whl k x.2) i).2.2.2.2.2.2.2)]) (wr := [ob h 4 [.ref mt, .int (nI tn), .ref mo, .int (nI on), .ref mk, .ref mn, .ref mr, .int (nI rc), .ref mh, .ref mw, .ref mi, .ref mv, .ref mb, .ref ms, .ref mu, .ref mp, .ref mc, .ref mx, .ref mg, .ref ma, .int (nI tx)], aB E mr 1024 row, aL E mh 8 x.1, aL E mw 64 (wF row n whl k x.2)]) (c_M_turn l E ((rs (r80 x.1) (wF row n whl k x.2) i).2.2.2.2.1) 11) (gdS m501 m502 m5 m503) rfl (by decide +kernel) ⟨by decide, by decide⟩ rfl rfl (Nat.le_of_ble_eq_true rfl) ⟨by decide, by decide⟩ [] [0, 1, 2, 3] rfl rfl (by decide) (by decide) (by decide) dM_hblock_363 (fun _ _ => ?_)
              show J E 25 g [ob h 4 [.ref mt, .int (nI tn), .ref mo, .int (nI on), .ref mk, .ref mn, .ref mr, .int (nI rc), .ref mh, .ref mw, .ref mi, .ref mv, .ref mb, .ref ms, .ref mu, .ref mp, .ref mc, .ref mx, .ref mg, .ref ma, .int (nI tx)], aB E mr 1024 row, aL E mh 8 x.1, aL E mw 64 (wF row n whl k x.2)] [(0, .ref h), (4, .long ((rs (r80 x.1) (wF row n whl k x.2) i).1)), (6, .long ((rs (r80 x.1) (wF row n whl k x.2) i).2.1)), (8, .long ((rs (r80 x.1) (wF row n whl k x.2) i).2.2.1)), (10, .long ((rs (r80 x.1) (wF row n whl k x.2) i).2.2.2.1)), (12, .long ((rs (r80 x.1) (wF row n whl k x.2) i).2.2.2.2.1)), (14, .long ((rs (r80 x.1) (wF row n whl k x.2) i).2.2.2.2.2.1)), (16, .long ((rs (r80 x.1) (wF row n whl k x.2) i).2.2.2.2.2.2.1)), (18, .long ((rs (r80 x.1) (wF row n whl k x.2) i).2.2.2.2.2.2.2)), (20, .int (nI i))] 0 0 366 [.long (mtn ((rs (r80 x.1) (wF row n whl k x.2) i).2.2.2.2.1) 11), .long (mtn ((rs (r80 x.1) (wF row n whl k x.2) i).2.2.2.2.1) 6), .long ((rs (r80 x.1) (wF row n whl k x.2) i).2.2.2.2.2.2.2)]
              refine j_lxor hg (v := (mtn ((rs (r80 x.1) (wF row n whl k x.2) i).2.2.2.2.1) 6) ^^^ (mtn ((rs (r80 x.1) (wF row n whl k x.2) i).2.2.2.2.1) 11)) dM_hblock_366 rfl ?_
              refine j_lload hg 5 dM_hblock_367 rfl ?_
              refine j_bipush hg (v := 25) dM_hblock_369 (by decide) ?_
              refine j_callS hg (n := 2) (y := yM_turn) (rm := rm_M_turn) (Ws := (cT yM_turn cM_turn 3 (some .long))) (As := [.long ((rs (r80 x.1) (wF row n whl k x.2) i).2.2.2.2.1), .int 25]) (rest := [.long ((mtn ((rs (r80 x.1) (wF row n whl k x.2) i).2.2.2.2.1) 6) ^^^ (mtn ((rs (r80 x.1) (wF row n whl k x.2) i).2.2.2.2.1) 11)), .long ((rs (r80 x.1) (wF row n whl k x.2) i).2.2.2.2.2.2.2)]) (wr := [ob h 4 [.ref mt, .int (nI tn), .ref mo, .int (nI on), .ref mk, .ref mn, .ref mr, .int (nI rc), .ref mh, .ref mw, .ref mi, .ref mv, .ref mb, .ref ms, .ref mu, .ref mp, .ref mc, .ref mx, .ref mg, .ref ma, .int (nI tx)], aB E mr 1024 row, aL E mh 8 x.1, aL E mw 64 (wF row n whl k x.2)]) (c_M_turn l E ((rs (r80 x.1) (wF row n whl k x.2) i).2.2.2.2.1) 25) (gdS m501 m502 m5 m503) rfl (by decide +kernel) ⟨by decide, by decide⟩ rfl rfl (Nat.le_of_ble_eq_true rfl) ⟨by decide, by decide⟩ [] [0, 1, 2, 3] rfl rfl (by decide) (by decide) (by decide) dM_hblock_371 (fun _ _ => ?_)
              show J E 25 g [ob h 4 [.ref mt, .int (nI tn), .ref mo, .int (nI on), .ref mk, .ref mn, .ref mr, .int (nI rc), .ref mh, .ref mw, .ref mi, .ref mv, .ref mb, .ref ms, .ref mu, .ref mp, .ref mc, .ref mx, .ref mg, .ref ma, .int (nI tx)], aB E mr 1024 row, aL E mh 8 x.1, aL E mw 64 (wF row n whl k x.2)] [(0, .ref h), (4, .long ((rs (r80 x.1) (wF row n whl k x.2) i).1)), (6, .long ((rs (r80 x.1) (wF row n whl k x.2) i).2.1)), (8, .long ((rs (r80 x.1) (wF row n whl k x.2) i).2.2.1)), (10, .long ((rs (r80 x.1) (wF row n whl k x.2) i).2.2.2.1)), (12, .long ((rs (r80 x.1) (wF row n whl k x.2) i).2.2.2.2.1)), (14, .long ((rs (r80 x.1) (wF row n whl k x.2) i).2.2.2.2.2.1)), (16, .long ((rs (r80 x.1) (wF row n whl k x.2) i).2.2.2.2.2.2.1)), (18, .long ((rs (r80 x.1) (wF row n whl k x.2) i).2.2.2.2.2.2.2)), (20, .int (nI i))] 0 0 374 [.long (mtn ((rs (r80 x.1) (wF row n whl k x.2) i).2.2.2.2.1) 25), .long ((mtn ((rs (r80 x.1) (wF row n whl k x.2) i).2.2.2.2.1) 6) ^^^ (mtn ((rs (r80 x.1) (wF row n whl k x.2) i).2.2.2.2.1) 11)), .long ((rs (r80 x.1) (wF row n whl k x.2) i).2.2.2.2.2.2.2)]
              refine j_lxor hg (v := ((mtn ((rs (r80 x.1) (wF row n whl k x.2) i).2.2.2.2.1) 6) ^^^ (mtn ((rs (r80 x.1) (wF row n whl k x.2) i).2.2.2.2.1) 11)) ^^^ (mtn ((rs (r80 x.1) (wF row n whl k x.2) i).2.2.2.2.1) 25)) dM_hblock_374 rfl ?_
              refine j_ladd hg (v := ((rs (r80 x.1) (wF row n whl k x.2) i).2.2.2.2.2.2.2) + (((mtn ((rs (r80 x.1) (wF row n whl k x.2) i).2.2.2.2.1) 6) ^^^ (mtn ((rs (r80 x.1) (wF row n whl k x.2) i).2.2.2.2.1) 11)) ^^^ (mtn ((rs (r80 x.1) (wF row n whl k x.2) i).2.2.2.2.1) 25))) dM_hblock_375 rfl ?_
              refine j_lload hg 5 dM_hblock_376 rfl ?_
              refine j_lload hg 6 dM_hblock_378 rfl ?_
              refine j_land hg (v := ((rs (r80 x.1) (wF row n whl k x.2) i).2.2.2.2.1) &&& ((rs (r80 x.1) (wF row n whl k x.2) i).2.2.2.2.2.1)) dM_hblock_380 rfl ?_
              refine j_ldc2 hg (v := 4294967295) m496 dM_hblock_381 ?_
              refine j_lload hg 5 dM_hblock_384 rfl ?_
              refine j_lsub hg (v := 4294967295 - ((rs (r80 x.1) (wF row n whl k x.2) i).2.2.2.2.1)) dM_hblock_386 rfl ?_
              refine j_lload hg 7 dM_hblock_387 rfl ?_
              refine j_land hg (v := (4294967295 - ((rs (r80 x.1) (wF row n whl k x.2) i).2.2.2.2.1)) &&& ((rs (r80 x.1) (wF row n whl k x.2) i).2.2.2.2.2.2.1)) dM_hblock_389 rfl ?_
              refine j_lor hg (v := (((rs (r80 x.1) (wF row n whl k x.2) i).2.2.2.2.1) &&& ((rs (r80 x.1) (wF row n whl k x.2) i).2.2.2.2.2.1)) ||| ((4294967295 - ((rs (r80 x.1) (wF row n whl k x.2) i).2.2.2.2.1)) &&& ((rs (r80 x.1) (wF row n whl k x.2) i).2.2.2.2.2.2.1))) dM_hblock_390 rfl ?_
              refine j_ladd hg (v := (((rs (r80 x.1) (wF row n whl k x.2) i).2.2.2.2.2.2.2) + (((mtn ((rs (r80 x.1) (wF row n whl k x.2) i).2.2.2.2.1) 6) ^^^ (mtn ((rs (r80 x.1) (wF row n whl k x.2) i).2.2.2.2.1) 11)) ^^^ (mtn ((rs (r80 x.1) (wF row n whl k x.2) i).2.2.2.2.1) 25))) + ((((rs (r80 x.1) (wF row n whl k x.2) i).2.2.2.2.1) &&& ((rs (r80 x.1) (wF row n whl k x.2) i).2.2.2.2.2.1)) ||| ((4294967295 - ((rs (r80 x.1) (wF row n whl k x.2) i).2.2.2.2.1)) &&& ((rs (r80 x.1) (wF row n whl k x.2) i).2.2.2.2.2.2.1)))) dM_hblock_391 rfl ?_
              refine j_gets hg 3 rfl m504 dM_hblock_392 ?_
              refine j_iload hg 9 dM_hblock_395 rfl ?_
              refine j_sti hg (f := tROUND) (v := tROUND i) 3 i rfl rfl (by omega) (by decide) rfl dM_hblock_397 ?_
              refine j_i2l hg (v := (tROUND i).toInt64) dM_hblock_398 rfl ?_
              refine j_ldc2 hg (v := 4294967295) m496 dM_hblock_399 ?_
              refine j_land hg (v := ((tROUND i).toInt64) &&& 4294967295) dM_hblock_402 rfl ?_
              refine j_ladd hg (v := ((((rs (r80 x.1) (wF row n whl k x.2) i).2.2.2.2.2.2.2) + (((mtn ((rs (r80 x.1) (wF row n whl k x.2) i).2.2.2.2.1) 6) ^^^ (mtn ((rs (r80 x.1) (wF row n whl k x.2) i).2.2.2.2.1) 11)) ^^^ (mtn ((rs (r80 x.1) (wF row n whl k x.2) i).2.2.2.2.1) 25))) + ((((rs (r80 x.1) (wF row n whl k x.2) i).2.2.2.2.1) &&& ((rs (r80 x.1) (wF row n whl k x.2) i).2.2.2.2.2.1)) ||| ((4294967295 - ((rs (r80 x.1) (wF row n whl k x.2) i).2.2.2.2.1)) &&& ((rs (r80 x.1) (wF row n whl k x.2) i).2.2.2.2.2.2.1)))) + (((tROUND i).toInt64) &&& 4294967295)) dM_hblock_403 rfl ?_
              refine j_aload_n hg 0 dM_hblock_404 rfl rfl ?_
              refine j_get hg (C := RX4) (T := TX4) (N := 21) inX4 0 rfl rfl 9 (by decide) m337 rfl dM_hblock_405 ?_
              refine j_iload hg 9 dM_hblock_408 rfl ?_
              refine j_lald hg (v := (wF row n whl k x.2) i) 3 i rfl rfl (by omega) (by omega) rfl dM_hblock_410 ?_
              refine j_ladd hg (v := (((((rs (r80 x.1) (wF row n whl k x.2) i).2.2.2.2.2.2.2) + (((mtn ((rs (r80 x.1) (wF row n whl k x.2) i).2.2.2.2.1) 6) ^^^ (mtn ((rs (r80 x.1) (wF row n whl k x.2) i).2.2.2.2.1) 11)) ^^^ (mtn ((rs (r80 x.1) (wF row n whl k x.2) i).2.2.2.2.1) 25))) + ((((rs (r80 x.1) (wF row n whl k x.2) i).2.2.2.2.1) &&& ((rs (r80 x.1) (wF row n whl k x.2) i).2.2.2.2.2.1)) ||| ((4294967295 - ((rs (r80 x.1) (wF row n whl k x.2) i).2.2.2.2.1)) &&& ((rs (r80 x.1) (wF row n whl k x.2) i).2.2.2.2.2.2.1)))) + (((tROUND i).toInt64) &&& 4294967295)) + ((wF row n whl k x.2) i)) dM_hblock_411 rfl ?_
              refine j_lstore hg (lv' := [(21, .long ((((((rs (r80 x.1) (wF row n whl k x.2) i).2.2.2.2.2.2.2) + (((mtn ((rs (r80 x.1) (wF row n whl k x.2) i).2.2.2.2.1) 6) ^^^ (mtn ((rs (r80 x.1) (wF row n whl k x.2) i).2.2.2.2.1) 11)) ^^^ (mtn ((rs (r80 x.1) (wF row n whl k x.2) i).2.2.2.2.1) 25))) + ((((rs (r80 x.1) (wF row n whl k x.2) i).2.2.2.2.1) &&& ((rs (r80 x.1) (wF row n whl k x.2) i).2.2.2.2.2.1)) ||| ((4294967295 - ((rs (r80 x.1) (wF row n whl k x.2) i).2.2.2.2.1)) &&& ((rs (r80 x.1) (wF row n whl k x.2) i).2.2.2.2.2.2.1)))) + (((tROUND i).toInt64) &&& 4294967295)) + ((wF row n whl k x.2) i))), (0, .ref h), (4, .long ((rs (r80 x.1) (wF row n whl k x.2) i).1)), (6, .long ((rs (r80 x.1) (wF row n whl k x.2) i).2.1)), (8, .long ((rs (r80 x.1) (wF row n whl k x.2) i).2.2.1)), (10, .long ((rs (r80 x.1) (wF row n whl k x.2) i).2.2.2.1)), (12, .long ((rs (r80 x.1) (wF row n whl k x.2) i).2.2.2.2.1)), (14, .long ((rs (r80 x.1) (wF row n whl k x.2) i).2.2.2.2.2.1)), (16, .long ((rs (r80 x.1) (wF row n whl k x.2) i).2.2.2.2.2.2.1)), (18, .long ((rs (r80 x.1) (wF row n whl k x.2) i).2.2.2.2.2.2.2)), (20, .int (nI i))]) dM_hblock_412 (by decide) rfl ?_
              refine j_lload hg 2 dM_hblock_414 rfl ?_
              refine j_iconst hg (v := 2) dM_hblock_416 (by decide) ?_
              refine j_callS hg (n := 2) (y := yM_turn) (rm := rm_M_turn) (Ws := (cT yM_turn cM_turn 3 (some .long))) (As := [.long ((rs (r80 x.1) (wF row n whl k x.2) i).1), .int 2]) (rest := []) (wr := [ob h 4 [.ref mt, .int (nI tn), .ref mo, .int (nI on), .ref mk, .ref mn, .ref mr, .int (nI rc), .ref mh, .ref mw, .ref mi, .ref mv, .ref mb, .ref ms, .ref mu, .ref mp, .ref mc, .ref mx, .ref mg, .ref ma, .int (nI tx)], aB E mr 1024 row, aL E mh 8 x.1, aL E mw 64 (wF row n whl k x.2)]) (c_M_turn l E ((rs (r80 x.1) (wF row n whl k x.2) i).1) 2) (gdS m501 m502 m5 m503) rfl (by decide +kernel) ⟨by decide, by decide⟩ rfl rfl (Nat.le_of_ble_eq_true rfl) ⟨by decide, by decide⟩ [] [0, 1, 2, 3] rfl rfl (by decide) (by decide) (by decide) dM_hblock_417 (fun _ _ => ?_)
              show J E 25 g [ob h 4 [.ref mt, .int (nI tn), .ref mo, .int (nI on), .ref mk, .ref mn, .ref mr, .int (nI rc), .ref mh, .ref mw, .ref mi, .ref mv, .ref mb, .ref ms, .ref mu, .ref mp, .ref mc, .ref mx, .ref mg, .ref ma, .int (nI tx)], aB E mr 1024 row, aL E mh 8 x.1, aL E mw 64 (wF row n whl k x.2)] [(21, .long ((((((rs (r80 x.1) (wF row n whl k x.2) i).2.2.2.2.2.2.2) + (((mtn ((rs (r80 x.1) (wF row n whl k x.2) i).2.2.2.2.1) 6) ^^^ (mtn ((rs (r80 x.1) (wF row n whl k x.2) i).2.2.2.2.1) 11)) ^^^ (mtn ((rs (r80 x.1) (wF row n whl k x.2) i).2.2.2.2.1) 25))) + ((((rs (r80 x.1) (wF row n whl k x.2) i).2.2.2.2.1) &&& ((rs (r80 x.1) (wF row n whl k x.2) i).2.2.2.2.2.1)) ||| ((4294967295 - ((rs (r80 x.1) (wF row n whl k x.2) i).2.2.2.2.1)) &&& ((rs (r80 x.1) (wF row n whl k x.2) i).2.2.2.2.2.2.1)))) + (((tROUND i).toInt64) &&& 4294967295)) + ((wF row n whl k x.2) i))), (0, .ref h), (4, .long ((rs (r80 x.1) (wF row n whl k x.2) i).1)), (6, .long ((rs (r80 x.1) (wF row n whl k x.2) i).2.1)), (8, .long ((rs (r80 x.1) (wF row n whl k x.2) i).2.2.1)), (10, .long ((rs (r80 x.1) (wF row n whl k x.2) i).2.2.2.1)), (12, .long ((rs (r80 x.1) (wF row n whl k x.2) i).2.2.2.2.1)), (14, .long ((rs (r80 x.1) (wF row n whl k x.2) i).2.2.2.2.2.1)), (16, .long ((rs (r80 x.1) (wF row n whl k x.2) i).2.2.2.2.2.2.1)), (18, .long ((rs (r80 x.1) (wF row n whl k x.2) i).2.2.2.2.2.2.2)), (20, .int (nI i))] 0 0 420 [.long (mtn ((rs (r80 x.1) (wF row n whl k x.2) i).1) 2)]
              refine j_lload hg 2 dM_hblock_420 rfl ?_
              refine j_bipush hg (v := 13) dM_hblock_422 (by decide) ?_
              refine j_callS hg (n := 2) (y := yM_turn) (rm := rm_M_turn) (Ws := (cT yM_turn cM_turn 3 (some .long))) (As := [.long ((rs (r80 x.1) (wF row n whl k x.2) i).1), .int 13]) (rest := [.long (mtn ((rs (r80 x.1) (wF row n whl k x.2) i).1) 2)]) (wr := [ob h 4 [.ref mt, .int (nI tn), .ref mo, .int (nI on), .ref mk, .ref mn, .ref mr, .int (nI rc), .ref mh, .ref mw, .ref mi, .ref mv, .ref mb, .ref ms, .ref mu, .ref mp, .ref mc, .ref mx, .ref mg, .ref ma, .int (nI tx)], aB E mr 1024 row, aL E mh 8 x.1, aL E mw 64 (wF row n whl k x.2)]) (c_M_turn l E ((rs (r80 x.1) (wF row n whl k x.2) i).1) 13) (gdS m501 m502 m5 m503) rfl (by decide +kernel) ⟨by decide, by decide⟩ rfl rfl (Nat.le_of_ble_eq_true rfl) ⟨by decide, by decide⟩ [] [0, 1, 2, 3] rfl rfl (by decide) (by decide) (by decide) dM_hblock_424 (fun _ _ => ?_)
              show J E 25 g [ob h 4 [.ref mt, .int (nI tn), .ref mo, .int (nI on), .ref mk, .ref mn, .ref mr, .int (nI rc), .ref mh, .ref mw, .ref mi, .ref mv, .ref mb, .ref ms, .ref mu, .ref mp, .ref mc, .ref mx, .ref mg, .ref ma, .int (nI tx)], aB E mr 1024 row, aL E mh 8 x.1, aL E mw 64 (wF row n whl k x.2)] [(21, .long ((((((rs (r80 x.1) (wF row n whl k x.2) i).2.2.2.2.2.2.2) + (((mtn ((rs (r80 x.1) (wF row n whl k x.2) i).2.2.2.2.1) 6) ^^^ (mtn ((rs (r80 x.1) (wF row n whl k x.2) i).2.2.2.2.1) 11)) ^^^ (mtn ((rs (r80 x.1) (wF row n whl k x.2) i).2.2.2.2.1) 25))) + ((((rs (r80 x.1) (wF row n whl k x.2) i).2.2.2.2.1) &&& ((rs (r80 x.1) (wF row n whl k x.2) i).2.2.2.2.2.1)) ||| ((4294967295 - ((rs (r80 x.1) (wF row n whl k x.2) i).2.2.2.2.1)) &&& ((rs (r80 x.1) (wF row n whl k x.2) i).2.2.2.2.2.2.1)))) + (((tROUND i).toInt64) &&& 4294967295)) + ((wF row n whl k x.2) i))), (0, .ref h), (4, .long ((rs (r80 x.1) (wF row n whl k x.2) i).1)), (6, .long ((rs (r80 x.1) (wF row n whl k x.2) i).2.1)), (8, .long ((rs (r80 x.1) (wF row n whl k x.2) i).2.2.1)), (10, .long ((rs (r80 x.1) (wF row n whl k x.2) i).2.2.2.1)), (12, .long ((rs (r80 x.1) (wF row n whl k x.2) i).2.2.2.2.1)), (14, .long ((rs (r80 x.1) (wF row n whl k x.2) i).2.2.2.2.2.1)), (16, .long ((rs (r80 x.1) (wF row n whl k x.2) i).2.2.2.2.2.2.1)), (18, .long ((rs (r80 x.1) (wF row n whl k x.2) i).2.2.2.2.2.2.2)), (20, .int (nI i))] 0 0 427 [.long (mtn ((rs (r80 x.1) (wF row n whl k x.2) i).1) 13), .long (mtn ((rs (r80 x.1) (wF row n whl k x.2) i).1) 2)]
              refine j_lxor hg (v := (mtn ((rs (r80 x.1) (wF row n whl k x.2) i).1) 2) ^^^ (mtn ((rs (r80 x.1) (wF row n whl k x.2) i).1) 13)) dM_hblock_427 rfl ?_
              refine j_lload hg 2 dM_hblock_428 rfl ?_
              refine j_bipush hg (v := 22) dM_hblock_430 (by decide) ?_
              refine j_callS hg (n := 2) (y := yM_turn) (rm := rm_M_turn) (Ws := (cT yM_turn cM_turn 3 (some .long))) (As := [.long ((rs (r80 x.1) (wF row n whl k x.2) i).1), .int 22]) (rest := [.long ((mtn ((rs (r80 x.1) (wF row n whl k x.2) i).1) 2) ^^^ (mtn ((rs (r80 x.1) (wF row n whl k x.2) i).1) 13))]) (wr := [ob h 4 [.ref mt, .int (nI tn), .ref mo, .int (nI on), .ref mk, .ref mn, .ref mr, .int (nI rc), .ref mh, .ref mw, .ref mi, .ref mv, .ref mb, .ref ms, .ref mu, .ref mp, .ref mc, .ref mx, .ref mg, .ref ma, .int (nI tx)], aB E mr 1024 row, aL E mh 8 x.1, aL E mw 64 (wF row n whl k x.2)]) (c_M_turn l E ((rs (r80 x.1) (wF row n whl k x.2) i).1) 22) (gdS m501 m502 m5 m503) rfl (by decide +kernel) ⟨by decide, by decide⟩ rfl rfl (Nat.le_of_ble_eq_true rfl) ⟨by decide, by decide⟩ [] [0, 1, 2, 3] rfl rfl (by decide) (by decide) (by decide) dM_hblock_432 (fun _ _ => ?_)
              show J E 25 g [ob h 4 [.ref mt, .int (nI tn), .ref mo, .int (nI on), .ref mk, .ref mn, .ref mr, .int (nI rc), .ref mh, .ref mw, .ref mi, .ref mv, .ref mb, .ref ms, .ref mu, .ref mp, .ref mc, .ref mx, .ref mg, .ref ma, .int (nI tx)], aB E mr 1024 row, aL E mh 8 x.1, aL E mw 64 (wF row n whl k x.2)] [(21, .long ((((((rs (r80 x.1) (wF row n whl k x.2) i).2.2.2.2.2.2.2) + (((mtn ((rs (r80 x.1) (wF row n whl k x.2) i).2.2.2.2.1) 6) ^^^ (mtn ((rs (r80 x.1) (wF row n whl k x.2) i).2.2.2.2.1) 11)) ^^^ (mtn ((rs (r80 x.1) (wF row n whl k x.2) i).2.2.2.2.1) 25))) + ((((rs (r80 x.1) (wF row n whl k x.2) i).2.2.2.2.1) &&& ((rs (r80 x.1) (wF row n whl k x.2) i).2.2.2.2.2.1)) ||| ((4294967295 - ((rs (r80 x.1) (wF row n whl k x.2) i).2.2.2.2.1)) &&& ((rs (r80 x.1) (wF row n whl k x.2) i).2.2.2.2.2.2.1)))) + (((tROUND i).toInt64) &&& 4294967295)) + ((wF row n whl k x.2) i))), (0, .ref h), (4, .long ((rs (r80 x.1) (wF row n whl k x.2) i).1)), (6, .long ((rs (r80 x.1) (wF row n whl k x.2) i).2.1)), (8, .long ((rs (r80 x.1) (wF row n whl k x.2) i).2.2.1)), (10, .long ((rs (r80 x.1) (wF row n whl k x.2) i).2.2.2.1)), (12, .long ((rs (r80 x.1) (wF row n whl k x.2) i).2.2.2.2.1)), (14, .long ((rs (r80 x.1) (wF row n whl k x.2) i).2.2.2.2.2.1)), (16, .long ((rs (r80 x.1) (wF row n whl k x.2) i).2.2.2.2.2.2.1)), (18, .long ((rs (r80 x.1) (wF row n whl k x.2) i).2.2.2.2.2.2.2)), (20, .int (nI i))] 0 0 435 [.long (mtn ((rs (r80 x.1) (wF row n whl k x.2) i).1) 22), .long ((mtn ((rs (r80 x.1) (wF row n whl k x.2) i).1) 2) ^^^ (mtn ((rs (r80 x.1) (wF row n whl k x.2) i).1) 13))]
              refine j_lxor hg (v := ((mtn ((rs (r80 x.1) (wF row n whl k x.2) i).1) 2) ^^^ (mtn ((rs (r80 x.1) (wF row n whl k x.2) i).1) 13)) ^^^ (mtn ((rs (r80 x.1) (wF row n whl k x.2) i).1) 22)) dM_hblock_435 rfl ?_
              refine j_lload hg 2 dM_hblock_436 rfl ?_
              refine j_lload hg 3 dM_hblock_438 rfl ?_
              refine j_land hg (v := ((rs (r80 x.1) (wF row n whl k x.2) i).1) &&& ((rs (r80 x.1) (wF row n whl k x.2) i).2.1)) dM_hblock_440 rfl ?_
              refine j_lload hg 2 dM_hblock_441 rfl ?_
              refine j_lload hg 4 dM_hblock_443 rfl ?_
              refine j_land hg (v := ((rs (r80 x.1) (wF row n whl k x.2) i).1) &&& ((rs (r80 x.1) (wF row n whl k x.2) i).2.2.1)) dM_hblock_445 rfl ?_
              refine j_lor hg (v := (((rs (r80 x.1) (wF row n whl k x.2) i).1) &&& ((rs (r80 x.1) (wF row n whl k x.2) i).2.1)) ||| (((rs (r80 x.1) (wF row n whl k x.2) i).1) &&& ((rs (r80 x.1) (wF row n whl k x.2) i).2.2.1))) dM_hblock_446 rfl ?_
              refine j_lload hg 3 dM_hblock_447 rfl ?_
              refine j_lload hg 4 dM_hblock_449 rfl ?_
              refine j_land hg (v := ((rs (r80 x.1) (wF row n whl k x.2) i).2.1) &&& ((rs (r80 x.1) (wF row n whl k x.2) i).2.2.1)) dM_hblock_451 rfl ?_
              refine j_lor hg (v := ((((rs (r80 x.1) (wF row n whl k x.2) i).1) &&& ((rs (r80 x.1) (wF row n whl k x.2) i).2.1)) ||| (((rs (r80 x.1) (wF row n whl k x.2) i).1) &&& ((rs (r80 x.1) (wF row n whl k x.2) i).2.2.1))) ||| (((rs (r80 x.1) (wF row n whl k x.2) i).2.1) &&& ((rs (r80 x.1) (wF row n whl k x.2) i).2.2.1))) dM_hblock_452 rfl ?_
              refine j_ladd hg (v := (((mtn ((rs (r80 x.1) (wF row n whl k x.2) i).1) 2) ^^^ (mtn ((rs (r80 x.1) (wF row n whl k x.2) i).1) 13)) ^^^ (mtn ((rs (r80 x.1) (wF row n whl k x.2) i).1) 22)) + (((((rs (r80 x.1) (wF row n whl k x.2) i).1) &&& ((rs (r80 x.1) (wF row n whl k x.2) i).2.1)) ||| (((rs (r80 x.1) (wF row n whl k x.2) i).1) &&& ((rs (r80 x.1) (wF row n whl k x.2) i).2.2.1))) ||| (((rs (r80 x.1) (wF row n whl k x.2) i).2.1) &&& ((rs (r80 x.1) (wF row n whl k x.2) i).2.2.1)))) dM_hblock_453 rfl ?_
              refine j_lstore hg (lv' := [(23, .long ((((mtn ((rs (r80 x.1) (wF row n whl k x.2) i).1) 2) ^^^ (mtn ((rs (r80 x.1) (wF row n whl k x.2) i).1) 13)) ^^^ (mtn ((rs (r80 x.1) (wF row n whl k x.2) i).1) 22)) + (((((rs (r80 x.1) (wF row n whl k x.2) i).1) &&& ((rs (r80 x.1) (wF row n whl k x.2) i).2.1)) ||| (((rs (r80 x.1) (wF row n whl k x.2) i).1) &&& ((rs (r80 x.1) (wF row n whl k x.2) i).2.2.1))) ||| (((rs (r80 x.1) (wF row n whl k x.2) i).2.1) &&& ((rs (r80 x.1) (wF row n whl k x.2) i).2.2.1))))), (21, .long ((((((rs (r80 x.1) (wF row n whl k x.2) i).2.2.2.2.2.2.2) + (((mtn ((rs (r80 x.1) (wF row n whl k x.2) i).2.2.2.2.1) 6) ^^^ (mtn ((rs (r80 x.1) (wF row n whl k x.2) i).2.2.2.2.1) 11)) ^^^ (mtn ((rs (r80 x.1) (wF row n whl k x.2) i).2.2.2.2.1) 25))) + ((((rs (r80 x.1) (wF row n whl k x.2) i).2.2.2.2.1) &&& ((rs (r80 x.1) (wF row n whl k x.2) i).2.2.2.2.2.1)) ||| ((4294967295 - ((rs (r80 x.1) (wF row n whl k x.2) i).2.2.2.2.1)) &&& ((rs (r80 x.1) (wF row n whl k x.2) i).2.2.2.2.2.2.1)))) + (((tROUND i).toInt64) &&& 4294967295)) + ((wF row n whl k x.2) i))), (0, .ref h), (4, .long ((rs (r80 x.1) (wF row n whl k x.2) i).1)), (6, .long ((rs (r80 x.1) (wF row n whl k x.2) i).2.1)), (8, .long ((rs (r80 x.1) (wF row n whl k x.2) i).2.2.1)), (10, .long ((rs (r80 x.1) (wF row n whl k x.2) i).2.2.2.1)), (12, .long ((rs (r80 x.1) (wF row n whl k x.2) i).2.2.2.2.1)), (14, .long ((rs (r80 x.1) (wF row n whl k x.2) i).2.2.2.2.2.1)), (16, .long ((rs (r80 x.1) (wF row n whl k x.2) i).2.2.2.2.2.2.1)), (18, .long ((rs (r80 x.1) (wF row n whl k x.2) i).2.2.2.2.2.2.2)), (20, .int (nI i))]) dM_hblock_454 (by decide) rfl ?_
              refine j_lload hg 9 dM_hblock_456 rfl ?_
              refine j_lstore hg (lv' := [(18, .long ((rs (r80 x.1) (wF row n whl k x.2) i).2.2.2.2.2.2.1)), (23, .long ((((mtn ((rs (r80 x.1) (wF row n whl k x.2) i).1) 2) ^^^ (mtn ((rs (r80 x.1) (wF row n whl k x.2) i).1) 13)) ^^^ (mtn ((rs (r80 x.1) (wF row n whl k x.2) i).1) 22)) + (((((rs (r80 x.1) (wF row n whl k x.2) i).1) &&& ((rs (r80 x.1) (wF row n whl k x.2) i).2.1)) ||| (((rs (r80 x.1) (wF row n whl k x.2) i).1) &&& ((rs (r80 x.1) (wF row n whl k x.2) i).2.2.1))) ||| (((rs (r80 x.1) (wF row n whl k x.2) i).2.1) &&& ((rs (r80 x.1) (wF row n whl k x.2) i).2.2.1))))), (21, .long ((((((rs (r80 x.1) (wF row n whl k x.2) i).2.2.2.2.2.2.2) + (((mtn ((rs (r80 x.1) (wF row n whl k x.2) i).2.2.2.2.1) 6) ^^^ (mtn ((rs (r80 x.1) (wF row n whl k x.2) i).2.2.2.2.1) 11)) ^^^ (mtn ((rs (r80 x.1) (wF row n whl k x.2) i).2.2.2.2.1) 25))) + ((((rs (r80 x.1) (wF row n whl k x.2) i).2.2.2.2.1) &&& ((rs (r80 x.1) (wF row n whl k x.2) i).2.2.2.2.2.1)) ||| ((4294967295 - ((rs (r80 x.1) (wF row n whl k x.2) i).2.2.2.2.1)) &&& ((rs (r80 x.1) (wF row n whl k x.2) i).2.2.2.2.2.2.1)))) + (((tROUND i).toInt64) &&& 4294967295)) + ((wF row n whl k x.2) i))), (0, .ref h), (4, .long ((rs (r80 x.1) (wF row n whl k x.2) i).1)), (6, .long ((rs (r80 x.1) (wF row n whl k x.2) i).2.1)), (8, .long ((rs (r80 x.1) (wF row n whl k x.2) i).2.2.1)), (10, .long ((rs (r80 x.1) (wF row n whl k x.2) i).2.2.2.1)), (12, .long ((rs (r80 x.1) (wF row n whl k x.2) i).2.2.2.2.1)), (14, .long ((rs (r80 x.1) (wF row n whl k x.2) i).2.2.2.2.2.1)), (16, .long ((rs (r80 x.1) (wF row n whl k x.2) i).2.2.2.2.2.2.1)), (20, .int (nI i))]) dM_hblock_458 (by decide) rfl ?_
              refine j_lload hg 9 dM_hblock_460 rfl ?_
              refine j_lstore hg (lv' := [(16, .long ((rs (r80 x.1) (wF row n whl k x.2) i).2.2.2.2.2.1)), (18, .long ((rs (r80 x.1) (wF row n whl k x.2) i).2.2.2.2.2.2.1)), (23, .long ((((mtn ((rs (r80 x.1) (wF row n whl k x.2) i).1) 2) ^^^ (mtn ((rs (r80 x.1) (wF row n whl k x.2) i).1) 13)) ^^^ (mtn ((rs (r80 x.1) (wF row n whl k x.2) i).1) 22)) + (((((rs (r80 x.1) (wF row n whl k x.2) i).1) &&& ((rs (r80 x.1) (wF row n whl k x.2) i).2.1)) ||| (((rs (r80 x.1) (wF row n whl k x.2) i).1) &&& ((rs (r80 x.1) (wF row n whl k x.2) i).2.2.1))) ||| (((rs (r80 x.1) (wF row n whl k x.2) i).2.1) &&& ((rs (r80 x.1) (wF row n whl k x.2) i).2.2.1))))), (21, .long ((((((rs (r80 x.1) (wF row n whl k x.2) i).2.2.2.2.2.2.2) + (((mtn ((rs (r80 x.1) (wF row n whl k x.2) i).2.2.2.2.1) 6) ^^^ (mtn ((rs (r80 x.1) (wF row n whl k x.2) i).2.2.2.2.1) 11)) ^^^ (mtn ((rs (r80 x.1) (wF row n whl k x.2) i).2.2.2.2.1) 25))) + ((((rs (r80 x.1) (wF row n whl k x.2) i).2.2.2.2.1) &&& ((rs (r80 x.1) (wF row n whl k x.2) i).2.2.2.2.2.1)) ||| ((4294967295 - ((rs (r80 x.1) (wF row n whl k x.2) i).2.2.2.2.1)) &&& ((rs (r80 x.1) (wF row n whl k x.2) i).2.2.2.2.2.2.1)))) + (((tROUND i).toInt64) &&& 4294967295)) + ((wF row n whl k x.2) i))), (0, .ref h), (4, .long ((rs (r80 x.1) (wF row n whl k x.2) i).1)), (6, .long ((rs (r80 x.1) (wF row n whl k x.2) i).2.1)), (8, .long ((rs (r80 x.1) (wF row n whl k x.2) i).2.2.1)), (10, .long ((rs (r80 x.1) (wF row n whl k x.2) i).2.2.2.1)), (12, .long ((rs (r80 x.1) (wF row n whl k x.2) i).2.2.2.2.1)), (14, .long ((rs (r80 x.1) (wF row n whl k x.2) i).2.2.2.2.2.1)), (20, .int (nI i))]) dM_hblock_462 (by decide) rfl ?_
              refine j_lload hg 9 dM_hblock_464 rfl ?_
              refine j_lstore hg (lv' := [(14, .long ((rs (r80 x.1) (wF row n whl k x.2) i).2.2.2.2.1)), (16, .long ((rs (r80 x.1) (wF row n whl k x.2) i).2.2.2.2.2.1)), (18, .long ((rs (r80 x.1) (wF row n whl k x.2) i).2.2.2.2.2.2.1)), (23, .long ((((mtn ((rs (r80 x.1) (wF row n whl k x.2) i).1) 2) ^^^ (mtn ((rs (r80 x.1) (wF row n whl k x.2) i).1) 13)) ^^^ (mtn ((rs (r80 x.1) (wF row n whl k x.2) i).1) 22)) + (((((rs (r80 x.1) (wF row n whl k x.2) i).1) &&& ((rs (r80 x.1) (wF row n whl k x.2) i).2.1)) ||| (((rs (r80 x.1) (wF row n whl k x.2) i).1) &&& ((rs (r80 x.1) (wF row n whl k x.2) i).2.2.1))) ||| (((rs (r80 x.1) (wF row n whl k x.2) i).2.1) &&& ((rs (r80 x.1) (wF row n whl k x.2) i).2.2.1))))), (21, .long ((((((rs (r80 x.1) (wF row n whl k x.2) i).2.2.2.2.2.2.2) + (((mtn ((rs (r80 x.1) (wF row n whl k x.2) i).2.2.2.2.1) 6) ^^^ (mtn ((rs (r80 x.1) (wF row n whl k x.2) i).2.2.2.2.1) 11)) ^^^ (mtn ((rs (r80 x.1) (wF row n whl k x.2) i).2.2.2.2.1) 25))) + ((((rs (r80 x.1) (wF row n whl k x.2) i).2.2.2.2.1) &&& ((rs (r80 x.1) (wF row n whl k x.2) i).2.2.2.2.2.1)) ||| ((4294967295 - ((rs (r80 x.1) (wF row n whl k x.2) i).2.2.2.2.1)) &&& ((rs (r80 x.1) (wF row n whl k x.2) i).2.2.2.2.2.2.1)))) + (((tROUND i).toInt64) &&& 4294967295)) + ((wF row n whl k x.2) i))), (0, .ref h), (4, .long ((rs (r80 x.1) (wF row n whl k x.2) i).1)), (6, .long ((rs (r80 x.1) (wF row n whl k x.2) i).2.1)), (8, .long ((rs (r80 x.1) (wF row n whl k x.2) i).2.2.1)), (10, .long ((rs (r80 x.1) (wF row n whl k x.2) i).2.2.2.1)), (12, .long ((rs (r80 x.1) (wF row n whl k x.2) i).2.2.2.2.1)), (20, .int (nI i))]) dM_hblock_466 (by decide) rfl ?_
              refine j_lload hg 9 dM_hblock_468 rfl ?_
              refine j_lload hg 4 dM_hblock_470 rfl ?_
              refine j_ladd hg (v := ((rs (r80 x.1) (wF row n whl k x.2) i).2.2.2.1) + ((((((rs (r80 x.1) (wF row n whl k x.2) i).2.2.2.2.2.2.2) + (((mtn ((rs (r80 x.1) (wF row n whl k x.2) i).2.2.2.2.1) 6) ^^^ (mtn ((rs (r80 x.1) (wF row n whl k x.2) i).2.2.2.2.1) 11)) ^^^ (mtn ((rs (r80 x.1) (wF row n whl k x.2) i).2.2.2.2.1) 25))) + ((((rs (r80 x.1) (wF row n whl k x.2) i).2.2.2.2.1) &&& ((rs (r80 x.1) (wF row n whl k x.2) i).2.2.2.2.2.1)) ||| ((4294967295 - ((rs (r80 x.1) (wF row n whl k x.2) i).2.2.2.2.1)) &&& ((rs (r80 x.1) (wF row n whl k x.2) i).2.2.2.2.2.2.1)))) + (((tROUND i).toInt64) &&& 4294967295)) + ((wF row n whl k x.2) i))) dM_hblock_472 rfl ?_
              refine j_ldc2 hg (v := 4294967295) m496 dM_hblock_473 ?_
              refine j_land hg (v := (((rs (r80 x.1) (wF row n whl k x.2) i).2.2.2.1) + ((((((rs (r80 x.1) (wF row n whl k x.2) i).2.2.2.2.2.2.2) + (((mtn ((rs (r80 x.1) (wF row n whl k x.2) i).2.2.2.2.1) 6) ^^^ (mtn ((rs (r80 x.1) (wF row n whl k x.2) i).2.2.2.2.1) 11)) ^^^ (mtn ((rs (r80 x.1) (wF row n whl k x.2) i).2.2.2.2.1) 25))) + ((((rs (r80 x.1) (wF row n whl k x.2) i).2.2.2.2.1) &&& ((rs (r80 x.1) (wF row n whl k x.2) i).2.2.2.2.2.1)) ||| ((4294967295 - ((rs (r80 x.1) (wF row n whl k x.2) i).2.2.2.2.1)) &&& ((rs (r80 x.1) (wF row n whl k x.2) i).2.2.2.2.2.2.1)))) + (((tROUND i).toInt64) &&& 4294967295)) + ((wF row n whl k x.2) i))) &&& 4294967295) dM_hblock_476 rfl ?_
              refine j_lstore hg (lv' := [(12, .long ((((rs (r80 x.1) (wF row n whl k x.2) i).2.2.2.1) + ((((((rs (r80 x.1) (wF row n whl k x.2) i).2.2.2.2.2.2.2) + (((mtn ((rs (r80 x.1) (wF row n whl k x.2) i).2.2.2.2.1) 6) ^^^ (mtn ((rs (r80 x.1) (wF row n whl k x.2) i).2.2.2.2.1) 11)) ^^^ (mtn ((rs (r80 x.1) (wF row n whl k x.2) i).2.2.2.2.1) 25))) + ((((rs (r80 x.1) (wF row n whl k x.2) i).2.2.2.2.1) &&& ((rs (r80 x.1) (wF row n whl k x.2) i).2.2.2.2.2.1)) ||| ((4294967295 - ((rs (r80 x.1) (wF row n whl k x.2) i).2.2.2.2.1)) &&& ((rs (r80 x.1) (wF row n whl k x.2) i).2.2.2.2.2.2.1)))) + (((tROUND i).toInt64) &&& 4294967295)) + ((wF row n whl k x.2) i))) &&& 4294967295)), (14, .long ((rs (r80 x.1) (wF row n whl k x.2) i).2.2.2.2.1)), (16, .long ((rs (r80 x.1) (wF row n whl k x.2) i).2.2.2.2.2.1)), (18, .long ((rs (r80 x.1) (wF row n whl k x.2) i).2.2.2.2.2.2.1)), (23, .long ((((mtn ((rs (r80 x.1) (wF row n whl k x.2) i).1) 2) ^^^ (mtn ((rs (r80 x.1) (wF row n whl k x.2) i).1) 13)) ^^^ (mtn ((rs (r80 x.1) (wF row n whl k x.2) i).1) 22)) + (((((rs (r80 x.1) (wF row n whl k x.2) i).1) &&& ((rs (r80 x.1) (wF row n whl k x.2) i).2.1)) ||| (((rs (r80 x.1) (wF row n whl k x.2) i).1) &&& ((rs (r80 x.1) (wF row n whl k x.2) i).2.2.1))) ||| (((rs (r80 x.1) (wF row n whl k x.2) i).2.1) &&& ((rs (r80 x.1) (wF row n whl k x.2) i).2.2.1))))), (21, .long ((((((rs (r80 x.1) (wF row n whl k x.2) i).2.2.2.2.2.2.2) + (((mtn ((rs (r80 x.1) (wF row n whl k x.2) i).2.2.2.2.1) 6) ^^^ (mtn ((rs (r80 x.1) (wF row n whl k x.2) i).2.2.2.2.1) 11)) ^^^ (mtn ((rs (r80 x.1) (wF row n whl k x.2) i).2.2.2.2.1) 25))) + ((((rs (r80 x.1) (wF row n whl k x.2) i).2.2.2.2.1) &&& ((rs (r80 x.1) (wF row n whl k x.2) i).2.2.2.2.2.1)) ||| ((4294967295 - ((rs (r80 x.1) (wF row n whl k x.2) i).2.2.2.2.1)) &&& ((rs (r80 x.1) (wF row n whl k x.2) i).2.2.2.2.2.2.1)))) + (((tROUND i).toInt64) &&& 4294967295)) + ((wF row n whl k x.2) i))), (0, .ref h), (4, .long ((rs (r80 x.1) (wF row n whl k x.2) i).1)), (6, .long ((rs (r80 x.1) (wF row n whl k x.2) i).2.1)), (8, .long ((rs (r80 x.1) (wF row n whl k x.2) i).2.2.1)), (10, .long ((rs (r80 x.1) (wF row n whl k x.2) i).2.2.2.1)), (20, .int (nI i))]) dM_hblock_477 (by decide) rfl ?_
              refine j_lload hg 9 dM_hblock_479 rfl ?_
              refine j_lstore hg (lv' := [(10, .long ((rs (r80 x.1) (wF row n whl k x.2) i).2.2.1)), (12, .long ((((rs (r80 x.1) (wF row n whl k x.2) i).2.2.2.1) + ((((((rs (r80 x.1) (wF row n whl k x.2) i).2.2.2.2.2.2.2) + (((mtn ((rs (r80 x.1) (wF row n whl k x.2) i).2.2.2.2.1) 6) ^^^ (mtn ((rs (r80 x.1) (wF row n whl k x.2) i).2.2.2.2.1) 11)) ^^^ (mtn ((rs (r80 x.1) (wF row n whl k x.2) i).2.2.2.2.1) 25))) + ((((rs (r80 x.1) (wF row n whl k x.2) i).2.2.2.2.1) &&& ((rs (r80 x.1) (wF row n whl k x.2) i).2.2.2.2.2.1)) ||| ((4294967295 - ((rs (r80 x.1) (wF row n whl k x.2) i).2.2.2.2.1)) &&& ((rs (r80 x.1) (wF row n whl k x.2) i).2.2.2.2.2.2.1)))) + (((tROUND i).toInt64) &&& 4294967295)) + ((wF row n whl k x.2) i))) &&& 4294967295)), (14, .long ((rs (r80 x.1) (wF row n whl k x.2) i).2.2.2.2.1)), (16, .long ((rs (r80 x.1) (wF row n whl k x.2) i).2.2.2.2.2.1)), (18, .long ((rs (r80 x.1) (wF row n whl k x.2) i).2.2.2.2.2.2.1)), (23, .long ((((mtn ((rs (r80 x.1) (wF row n whl k x.2) i).1) 2) ^^^ (mtn ((rs (r80 x.1) (wF row n whl k x.2) i).1) 13)) ^^^ (mtn ((rs (r80 x.1) (wF row n whl k x.2) i).1) 22)) + (((((rs (r80 x.1) (wF row n whl k x.2) i).1) &&& ((rs (r80 x.1) (wF row n whl k x.2) i).2.1)) ||| (((rs (r80 x.1) (wF row n whl k x.2) i).1) &&& ((rs (r80 x.1) (wF row n whl k x.2) i).2.2.1))) ||| (((rs (r80 x.1) (wF row n whl k x.2) i).2.1) &&& ((rs (r80 x.1) (wF row n whl k x.2) i).2.2.1))))), (21, .long ((((((rs (r80 x.1) (wF row n whl k x.2) i).2.2.2.2.2.2.2) + (((mtn ((rs (r80 x.1) (wF row n whl k x.2) i).2.2.2.2.1) 6) ^^^ (mtn ((rs (r80 x.1) (wF row n whl k x.2) i).2.2.2.2.1) 11)) ^^^ (mtn ((rs (r80 x.1) (wF row n whl k x.2) i).2.2.2.2.1) 25))) + ((((rs (r80 x.1) (wF row n whl k x.2) i).2.2.2.2.1) &&& ((rs (r80 x.1) (wF row n whl k x.2) i).2.2.2.2.2.1)) ||| ((4294967295 - ((rs (r80 x.1) (wF row n whl k x.2) i).2.2.2.2.1)) &&& ((rs (r80 x.1) (wF row n whl k x.2) i).2.2.2.2.2.2.1)))) + (((tROUND i).toInt64) &&& 4294967295)) + ((wF row n whl k x.2) i))), (0, .ref h), (4, .long ((rs (r80 x.1) (wF row n whl k x.2) i).1)), (6, .long ((rs (r80 x.1) (wF row n whl k x.2) i).2.1)), (8, .long ((rs (r80 x.1) (wF row n whl k x.2) i).2.2.1)), (20, .int (nI i))]) dM_hblock_481 (by decide) rfl ?_
              refine j_lload hg 9 dM_hblock_483 rfl ?_
              refine j_lstore hg (lv' := [(8, .long ((rs (r80 x.1) (wF row n whl k x.2) i).2.1)), (10, .long ((rs (r80 x.1) (wF row n whl k x.2) i).2.2.1)), (12, .long ((((rs (r80 x.1) (wF row n whl k x.2) i).2.2.2.1) + ((((((rs (r80 x.1) (wF row n whl k x.2) i).2.2.2.2.2.2.2) + (((mtn ((rs (r80 x.1) (wF row n whl k x.2) i).2.2.2.2.1) 6) ^^^ (mtn ((rs (r80 x.1) (wF row n whl k x.2) i).2.2.2.2.1) 11)) ^^^ (mtn ((rs (r80 x.1) (wF row n whl k x.2) i).2.2.2.2.1) 25))) + ((((rs (r80 x.1) (wF row n whl k x.2) i).2.2.2.2.1) &&& ((rs (r80 x.1) (wF row n whl k x.2) i).2.2.2.2.2.1)) ||| ((4294967295 - ((rs (r80 x.1) (wF row n whl k x.2) i).2.2.2.2.1)) &&& ((rs (r80 x.1) (wF row n whl k x.2) i).2.2.2.2.2.2.1)))) + (((tROUND i).toInt64) &&& 4294967295)) + ((wF row n whl k x.2) i))) &&& 4294967295)), (14, .long ((rs (r80 x.1) (wF row n whl k x.2) i).2.2.2.2.1)), (16, .long ((rs (r80 x.1) (wF row n whl k x.2) i).2.2.2.2.2.1)), (18, .long ((rs (r80 x.1) (wF row n whl k x.2) i).2.2.2.2.2.2.1)), (23, .long ((((mtn ((rs (r80 x.1) (wF row n whl k x.2) i).1) 2) ^^^ (mtn ((rs (r80 x.1) (wF row n whl k x.2) i).1) 13)) ^^^ (mtn ((rs (r80 x.1) (wF row n whl k x.2) i).1) 22)) + (((((rs (r80 x.1) (wF row n whl k x.2) i).1) &&& ((rs (r80 x.1) (wF row n whl k x.2) i).2.1)) ||| (((rs (r80 x.1) (wF row n whl k x.2) i).1) &&& ((rs (r80 x.1) (wF row n whl k x.2) i).2.2.1))) ||| (((rs (r80 x.1) (wF row n whl k x.2) i).2.1) &&& ((rs (r80 x.1) (wF row n whl k x.2) i).2.2.1))))), (21, .long ((((((rs (r80 x.1) (wF row n whl k x.2) i).2.2.2.2.2.2.2) + (((mtn ((rs (r80 x.1) (wF row n whl k x.2) i).2.2.2.2.1) 6) ^^^ (mtn ((rs (r80 x.1) (wF row n whl k x.2) i).2.2.2.2.1) 11)) ^^^ (mtn ((rs (r80 x.1) (wF row n whl k x.2) i).2.2.2.2.1) 25))) + ((((rs (r80 x.1) (wF row n whl k x.2) i).2.2.2.2.1) &&& ((rs (r80 x.1) (wF row n whl k x.2) i).2.2.2.2.2.1)) ||| ((4294967295 - ((rs (r80 x.1) (wF row n whl k x.2) i).2.2.2.2.1)) &&& ((rs (r80 x.1) (wF row n whl k x.2) i).2.2.2.2.2.2.1)))) + (((tROUND i).toInt64) &&& 4294967295)) + ((wF row n whl k x.2) i))), (0, .ref h), (4, .long ((rs (r80 x.1) (wF row n whl k x.2) i).1)), (6, .long ((rs (r80 x.1) (wF row n whl k x.2) i).2.1)), (20, .int (nI i))]) dM_hblock_485 (by decide) rfl ?_
              refine j_lload hg 9 dM_hblock_487 rfl ?_
              refine j_lstore hg (lv' := [(6, .long ((rs (r80 x.1) (wF row n whl k x.2) i).1)), (8, .long ((rs (r80 x.1) (wF row n whl k x.2) i).2.1)), (10, .long ((rs (r80 x.1) (wF row n whl k x.2) i).2.2.1)), (12, .long ((((rs (r80 x.1) (wF row n whl k x.2) i).2.2.2.1) + ((((((rs (r80 x.1) (wF row n whl k x.2) i).2.2.2.2.2.2.2) + (((mtn ((rs (r80 x.1) (wF row n whl k x.2) i).2.2.2.2.1) 6) ^^^ (mtn ((rs (r80 x.1) (wF row n whl k x.2) i).2.2.2.2.1) 11)) ^^^ (mtn ((rs (r80 x.1) (wF row n whl k x.2) i).2.2.2.2.1) 25))) + ((((rs (r80 x.1) (wF row n whl k x.2) i).2.2.2.2.1) &&& ((rs (r80 x.1) (wF row n whl k x.2) i).2.2.2.2.2.1)) ||| ((4294967295 - ((rs (r80 x.1) (wF row n whl k x.2) i).2.2.2.2.1)) &&& ((rs (r80 x.1) (wF row n whl k x.2) i).2.2.2.2.2.2.1)))) + (((tROUND i).toInt64) &&& 4294967295)) + ((wF row n whl k x.2) i))) &&& 4294967295)), (14, .long ((rs (r80 x.1) (wF row n whl k x.2) i).2.2.2.2.1)), (16, .long ((rs (r80 x.1) (wF row n whl k x.2) i).2.2.2.2.2.1)), (18, .long ((rs (r80 x.1) (wF row n whl k x.2) i).2.2.2.2.2.2.1)), (23, .long ((((mtn ((rs (r80 x.1) (wF row n whl k x.2) i).1) 2) ^^^ (mtn ((rs (r80 x.1) (wF row n whl k x.2) i).1) 13)) ^^^ (mtn ((rs (r80 x.1) (wF row n whl k x.2) i).1) 22)) + (((((rs (r80 x.1) (wF row n whl k x.2) i).1) &&& ((rs (r80 x.1) (wF row n whl k x.2) i).2.1)) ||| (((rs (r80 x.1) (wF row n whl k x.2) i).1) &&& ((rs (r80 x.1) (wF row n whl k x.2) i).2.2.1))) ||| (((rs (r80 x.1) (wF row n whl k x.2) i).2.1) &&& ((rs (r80 x.1) (wF row n whl k x.2) i).2.2.1))))), (21, .long ((((((rs (r80 x.1) (wF row n whl k x.2) i).2.2.2.2.2.2.2) + (((mtn ((rs (r80 x.1) (wF row n whl k x.2) i).2.2.2.2.1) 6) ^^^ (mtn ((rs (r80 x.1) (wF row n whl k x.2) i).2.2.2.2.1) 11)) ^^^ (mtn ((rs (r80 x.1) (wF row n whl k x.2) i).2.2.2.2.1) 25))) + ((((rs (r80 x.1) (wF row n whl k x.2) i).2.2.2.2.1) &&& ((rs (r80 x.1) (wF row n whl k x.2) i).2.2.2.2.2.1)) ||| ((4294967295 - ((rs (r80 x.1) (wF row n whl k x.2) i).2.2.2.2.1)) &&& ((rs (r80 x.1) (wF row n whl k x.2) i).2.2.2.2.2.2.1)))) + (((tROUND i).toInt64) &&& 4294967295)) + ((wF row n whl k x.2) i))), (0, .ref h), (4, .long ((rs (r80 x.1) (wF row n whl k x.2) i).1)), (20, .int (nI i))]) dM_hblock_489 (by decide) rfl ?_
              refine j_lload hg 8 dM_hblock_491 rfl ?_
              refine j_lload hg 7 dM_hblock_493 rfl ?_
              refine j_ladd hg (v := ((((((rs (r80 x.1) (wF row n whl k x.2) i).2.2.2.2.2.2.2) + (((mtn ((rs (r80 x.1) (wF row n whl k x.2) i).2.2.2.2.1) 6) ^^^ (mtn ((rs (r80 x.1) (wF row n whl k x.2) i).2.2.2.2.1) 11)) ^^^ (mtn ((rs (r80 x.1) (wF row n whl k x.2) i).2.2.2.2.1) 25))) + ((((rs (r80 x.1) (wF row n whl k x.2) i).2.2.2.2.1) &&& ((rs (r80 x.1) (wF row n whl k x.2) i).2.2.2.2.2.1)) ||| ((4294967295 - ((rs (r80 x.1) (wF row n whl k x.2) i).2.2.2.2.1)) &&& ((rs (r80 x.1) (wF row n whl k x.2) i).2.2.2.2.2.2.1)))) + (((tROUND i).toInt64) &&& 4294967295)) + ((wF row n whl k x.2) i)) + ((((mtn ((rs (r80 x.1) (wF row n whl k x.2) i).1) 2) ^^^ (mtn ((rs (r80 x.1) (wF row n whl k x.2) i).1) 13)) ^^^ (mtn ((rs (r80 x.1) (wF row n whl k x.2) i).1) 22)) + (((((rs (r80 x.1) (wF row n whl k x.2) i).1) &&& ((rs (r80 x.1) (wF row n whl k x.2) i).2.1)) ||| (((rs (r80 x.1) (wF row n whl k x.2) i).1) &&& ((rs (r80 x.1) (wF row n whl k x.2) i).2.2.1))) ||| (((rs (r80 x.1) (wF row n whl k x.2) i).2.1) &&& ((rs (r80 x.1) (wF row n whl k x.2) i).2.2.1))))) dM_hblock_495 rfl ?_
              refine j_ldc2 hg (v := 4294967295) m496 dM_hblock_496 ?_
              refine j_land hg (v := (((((((rs (r80 x.1) (wF row n whl k x.2) i).2.2.2.2.2.2.2) + (((mtn ((rs (r80 x.1) (wF row n whl k x.2) i).2.2.2.2.1) 6) ^^^ (mtn ((rs (r80 x.1) (wF row n whl k x.2) i).2.2.2.2.1) 11)) ^^^ (mtn ((rs (r80 x.1) (wF row n whl k x.2) i).2.2.2.2.1) 25))) + ((((rs (r80 x.1) (wF row n whl k x.2) i).2.2.2.2.1) &&& ((rs (r80 x.1) (wF row n whl k x.2) i).2.2.2.2.2.1)) ||| ((4294967295 - ((rs (r80 x.1) (wF row n whl k x.2) i).2.2.2.2.1)) &&& ((rs (r80 x.1) (wF row n whl k x.2) i).2.2.2.2.2.2.1)))) + (((tROUND i).toInt64) &&& 4294967295)) + ((wF row n whl k x.2) i)) + ((((mtn ((rs (r80 x.1) (wF row n whl k x.2) i).1) 2) ^^^ (mtn ((rs (r80 x.1) (wF row n whl k x.2) i).1) 13)) ^^^ (mtn ((rs (r80 x.1) (wF row n whl k x.2) i).1) 22)) + (((((rs (r80 x.1) (wF row n whl k x.2) i).1) &&& ((rs (r80 x.1) (wF row n whl k x.2) i).2.1)) ||| (((rs (r80 x.1) (wF row n whl k x.2) i).1) &&& ((rs (r80 x.1) (wF row n whl k x.2) i).2.2.1))) ||| (((rs (r80 x.1) (wF row n whl k x.2) i).2.1) &&& ((rs (r80 x.1) (wF row n whl k x.2) i).2.2.1))))) &&& 4294967295) dM_hblock_499 rfl ?_
              refine j_lstore hg (lv' := [(4, .long ((((((((rs (r80 x.1) (wF row n whl k x.2) i).2.2.2.2.2.2.2) + (((mtn ((rs (r80 x.1) (wF row n whl k x.2) i).2.2.2.2.1) 6) ^^^ (mtn ((rs (r80 x.1) (wF row n whl k x.2) i).2.2.2.2.1) 11)) ^^^ (mtn ((rs (r80 x.1) (wF row n whl k x.2) i).2.2.2.2.1) 25))) + ((((rs (r80 x.1) (wF row n whl k x.2) i).2.2.2.2.1) &&& ((rs (r80 x.1) (wF row n whl k x.2) i).2.2.2.2.2.1)) ||| ((4294967295 - ((rs (r80 x.1) (wF row n whl k x.2) i).2.2.2.2.1)) &&& ((rs (r80 x.1) (wF row n whl k x.2) i).2.2.2.2.2.2.1)))) + (((tROUND i).toInt64) &&& 4294967295)) + ((wF row n whl k x.2) i)) + ((((mtn ((rs (r80 x.1) (wF row n whl k x.2) i).1) 2) ^^^ (mtn ((rs (r80 x.1) (wF row n whl k x.2) i).1) 13)) ^^^ (mtn ((rs (r80 x.1) (wF row n whl k x.2) i).1) 22)) + (((((rs (r80 x.1) (wF row n whl k x.2) i).1) &&& ((rs (r80 x.1) (wF row n whl k x.2) i).2.1)) ||| (((rs (r80 x.1) (wF row n whl k x.2) i).1) &&& ((rs (r80 x.1) (wF row n whl k x.2) i).2.2.1))) ||| (((rs (r80 x.1) (wF row n whl k x.2) i).2.1) &&& ((rs (r80 x.1) (wF row n whl k x.2) i).2.2.1))))) &&& 4294967295)), (6, .long ((rs (r80 x.1) (wF row n whl k x.2) i).1)), (8, .long ((rs (r80 x.1) (wF row n whl k x.2) i).2.1)), (10, .long ((rs (r80 x.1) (wF row n whl k x.2) i).2.2.1)), (12, .long ((((rs (r80 x.1) (wF row n whl k x.2) i).2.2.2.1) + ((((((rs (r80 x.1) (wF row n whl k x.2) i).2.2.2.2.2.2.2) + (((mtn ((rs (r80 x.1) (wF row n whl k x.2) i).2.2.2.2.1) 6) ^^^ (mtn ((rs (r80 x.1) (wF row n whl k x.2) i).2.2.2.2.1) 11)) ^^^ (mtn ((rs (r80 x.1) (wF row n whl k x.2) i).2.2.2.2.1) 25))) + ((((rs (r80 x.1) (wF row n whl k x.2) i).2.2.2.2.1) &&& ((rs (r80 x.1) (wF row n whl k x.2) i).2.2.2.2.2.1)) ||| ((4294967295 - ((rs (r80 x.1) (wF row n whl k x.2) i).2.2.2.2.1)) &&& ((rs (r80 x.1) (wF row n whl k x.2) i).2.2.2.2.2.2.1)))) + (((tROUND i).toInt64) &&& 4294967295)) + ((wF row n whl k x.2) i))) &&& 4294967295)), (14, .long ((rs (r80 x.1) (wF row n whl k x.2) i).2.2.2.2.1)), (16, .long ((rs (r80 x.1) (wF row n whl k x.2) i).2.2.2.2.2.1)), (18, .long ((rs (r80 x.1) (wF row n whl k x.2) i).2.2.2.2.2.2.1)), (23, .long ((((mtn ((rs (r80 x.1) (wF row n whl k x.2) i).1) 2) ^^^ (mtn ((rs (r80 x.1) (wF row n whl k x.2) i).1) 13)) ^^^ (mtn ((rs (r80 x.1) (wF row n whl k x.2) i).1) 22)) + (((((rs (r80 x.1) (wF row n whl k x.2) i).1) &&& ((rs (r80 x.1) (wF row n whl k x.2) i).2.1)) ||| (((rs (r80 x.1) (wF row n whl k x.2) i).1) &&& ((rs (r80 x.1) (wF row n whl k x.2) i).2.2.1))) ||| (((rs (r80 x.1) (wF row n whl k x.2) i).2.1) &&& ((rs (r80 x.1) (wF row n whl k x.2) i).2.2.1))))), (21, .long ((((((rs (r80 x.1) (wF row n whl k x.2) i).2.2.2.2.2.2.2) + (((mtn ((rs (r80 x.1) (wF row n whl k x.2) i).2.2.2.2.1) 6) ^^^ (mtn ((rs (r80 x.1) (wF row n whl k x.2) i).2.2.2.2.1) 11)) ^^^ (mtn ((rs (r80 x.1) (wF row n whl k x.2) i).2.2.2.2.1) 25))) + ((((rs (r80 x.1) (wF row n whl k x.2) i).2.2.2.2.1) &&& ((rs (r80 x.1) (wF row n whl k x.2) i).2.2.2.2.2.1)) ||| ((4294967295 - ((rs (r80 x.1) (wF row n whl k x.2) i).2.2.2.2.1)) &&& ((rs (r80 x.1) (wF row n whl k x.2) i).2.2.2.2.2.2.1)))) + (((tROUND i).toInt64) &&& 4294967295)) + ((wF row n whl k x.2) i))), (0, .ref h), (20, .int (nI i))]) dM_hblock_500 (by decide) rfl ?_
              refine j_iinc hg (kq := 11) (v := nI (i + 1)) (lv' := [(20, .int (nI (i + 1))), (4, .long ((((((((rs (r80 x.1) (wF row n whl k x.2) i).2.2.2.2.2.2.2) + (((mtn ((rs (r80 x.1) (wF row n whl k x.2) i).2.2.2.2.1) 6) ^^^ (mtn ((rs (r80 x.1) (wF row n whl k x.2) i).2.2.2.2.1) 11)) ^^^ (mtn ((rs (r80 x.1) (wF row n whl k x.2) i).2.2.2.2.1) 25))) + ((((rs (r80 x.1) (wF row n whl k x.2) i).2.2.2.2.1) &&& ((rs (r80 x.1) (wF row n whl k x.2) i).2.2.2.2.2.1)) ||| ((4294967295 - ((rs (r80 x.1) (wF row n whl k x.2) i).2.2.2.2.1)) &&& ((rs (r80 x.1) (wF row n whl k x.2) i).2.2.2.2.2.2.1)))) + (((tROUND i).toInt64) &&& 4294967295)) + ((wF row n whl k x.2) i)) + ((((mtn ((rs (r80 x.1) (wF row n whl k x.2) i).1) 2) ^^^ (mtn ((rs (r80 x.1) (wF row n whl k x.2) i).1) 13)) ^^^ (mtn ((rs (r80 x.1) (wF row n whl k x.2) i).1) 22)) + (((((rs (r80 x.1) (wF row n whl k x.2) i).1) &&& ((rs (r80 x.1) (wF row n whl k x.2) i).2.1)) ||| (((rs (r80 x.1) (wF row n whl k x.2) i).1) &&& ((rs (r80 x.1) (wF row n whl k x.2) i).2.2.1))) ||| (((rs (r80 x.1) (wF row n whl k x.2) i).2.1) &&& ((rs (r80 x.1) (wF row n whl k x.2) i).2.2.1))))) &&& 4294967295)), (6, .long ((rs (r80 x.1) (wF row n whl k x.2) i).1)), (8, .long ((rs (r80 x.1) (wF row n whl k x.2) i).2.1)), (10, .long ((rs (r80 x.1) (wF row n whl k x.2) i).2.2.1)), (12, .long ((((rs (r80 x.1) (wF row n whl k x.2) i).2.2.2.1) + ((((((rs (r80 x.1) (wF row n whl k x.2) i).2.2.2.2.2.2.2) + (((mtn ((rs (r80 x.1) (wF row n whl k x.2) i).2.2.2.2.1) 6) ^^^ (mtn ((rs (r80 x.1) (wF row n whl k x.2) i).2.2.2.2.1) 11)) ^^^ (mtn ((rs (r80 x.1) (wF row n whl k x.2) i).2.2.2.2.1) 25))) + ((((rs (r80 x.1) (wF row n whl k x.2) i).2.2.2.2.1) &&& ((rs (r80 x.1) (wF row n whl k x.2) i).2.2.2.2.2.1)) ||| ((4294967295 - ((rs (r80 x.1) (wF row n whl k x.2) i).2.2.2.2.1)) &&& ((rs (r80 x.1) (wF row n whl k x.2) i).2.2.2.2.2.2.1)))) + (((tROUND i).toInt64) &&& 4294967295)) + ((wF row n whl k x.2) i))) &&& 4294967295)), (14, .long ((rs (r80 x.1) (wF row n whl k x.2) i).2.2.2.2.1)), (16, .long ((rs (r80 x.1) (wF row n whl k x.2) i).2.2.2.2.2.1)), (18, .long ((rs (r80 x.1) (wF row n whl k x.2) i).2.2.2.2.2.2.1)), (23, .long ((((mtn ((rs (r80 x.1) (wF row n whl k x.2) i).1) 2) ^^^ (mtn ((rs (r80 x.1) (wF row n whl k x.2) i).1) 13)) ^^^ (mtn ((rs (r80 x.1) (wF row n whl k x.2) i).1) 22)) + (((((rs (r80 x.1) (wF row n whl k x.2) i).1) &&& ((rs (r80 x.1) (wF row n whl k x.2) i).2.1)) ||| (((rs (r80 x.1) (wF row n whl k x.2) i).1) &&& ((rs (r80 x.1) (wF row n whl k x.2) i).2.2.1))) ||| (((rs (r80 x.1) (wF row n whl k x.2) i).2.1) &&& ((rs (r80 x.1) (wF row n whl k x.2) i).2.2.1))))), (21, .long ((((((rs (r80 x.1) (wF row n whl k x.2) i).2.2.2.2.2.2.2) + (((mtn ((rs (r80 x.1) (wF row n whl k x.2) i).2.2.2.2.1) 6) ^^^ (mtn ((rs (r80 x.1) (wF row n whl k x.2) i).2.2.2.2.1) 11)) ^^^ (mtn ((rs (r80 x.1) (wF row n whl k x.2) i).2.2.2.2.1) 25))) + ((((rs (r80 x.1) (wF row n whl k x.2) i).2.2.2.2.1) &&& ((rs (r80 x.1) (wF row n whl k x.2) i).2.2.2.2.2.1)) ||| ((4294967295 - ((rs (r80 x.1) (wF row n whl k x.2) i).2.2.2.2.1)) &&& ((rs (r80 x.1) (wF row n whl k x.2) i).2.2.2.2.2.2.1)))) + (((tROUND i).toInt64) &&& 4294967295)) + ((wF row n whl k x.2) i))), (0, .ref h)]) dM_hblock_502 rfl (nI_add i 1) (by decide) rfl ?_
              refine j_goto hg (tgt := 343) dM_hblock_505 (by decide) ?_
              refine j_pick [11, 1, 2, 3, 4, 5, 6, 7, 8, 0] (lv' := [(0, .ref h), (4, .long ((((((((rs (r80 x.1) (wF row n whl k x.2) i).2.2.2.2.2.2.2) + (((mtn ((rs (r80 x.1) (wF row n whl k x.2) i).2.2.2.2.1) 6) ^^^ (mtn ((rs (r80 x.1) (wF row n whl k x.2) i).2.2.2.2.1) 11)) ^^^ (mtn ((rs (r80 x.1) (wF row n whl k x.2) i).2.2.2.2.1) 25))) + ((((rs (r80 x.1) (wF row n whl k x.2) i).2.2.2.2.1) &&& ((rs (r80 x.1) (wF row n whl k x.2) i).2.2.2.2.2.1)) ||| ((4294967295 - ((rs (r80 x.1) (wF row n whl k x.2) i).2.2.2.2.1)) &&& ((rs (r80 x.1) (wF row n whl k x.2) i).2.2.2.2.2.2.1)))) + (((tROUND i).toInt64) &&& 4294967295)) + ((wF row n whl k x.2) i)) + ((((mtn ((rs (r80 x.1) (wF row n whl k x.2) i).1) 2) ^^^ (mtn ((rs (r80 x.1) (wF row n whl k x.2) i).1) 13)) ^^^ (mtn ((rs (r80 x.1) (wF row n whl k x.2) i).1) 22)) + (((((rs (r80 x.1) (wF row n whl k x.2) i).1) &&& ((rs (r80 x.1) (wF row n whl k x.2) i).2.1)) ||| (((rs (r80 x.1) (wF row n whl k x.2) i).1) &&& ((rs (r80 x.1) (wF row n whl k x.2) i).2.2.1))) ||| (((rs (r80 x.1) (wF row n whl k x.2) i).2.1) &&& ((rs (r80 x.1) (wF row n whl k x.2) i).2.2.1))))) &&& 4294967295)), (6, .long ((rs (r80 x.1) (wF row n whl k x.2) i).1)), (8, .long ((rs (r80 x.1) (wF row n whl k x.2) i).2.1)), (10, .long ((rs (r80 x.1) (wF row n whl k x.2) i).2.2.1)), (12, .long ((((rs (r80 x.1) (wF row n whl k x.2) i).2.2.2.1) + ((((((rs (r80 x.1) (wF row n whl k x.2) i).2.2.2.2.2.2.2) + (((mtn ((rs (r80 x.1) (wF row n whl k x.2) i).2.2.2.2.1) 6) ^^^ (mtn ((rs (r80 x.1) (wF row n whl k x.2) i).2.2.2.2.1) 11)) ^^^ (mtn ((rs (r80 x.1) (wF row n whl k x.2) i).2.2.2.2.1) 25))) + ((((rs (r80 x.1) (wF row n whl k x.2) i).2.2.2.2.1) &&& ((rs (r80 x.1) (wF row n whl k x.2) i).2.2.2.2.2.1)) ||| ((4294967295 - ((rs (r80 x.1) (wF row n whl k x.2) i).2.2.2.2.1)) &&& ((rs (r80 x.1) (wF row n whl k x.2) i).2.2.2.2.2.2.1)))) + (((tROUND i).toInt64) &&& 4294967295)) + ((wF row n whl k x.2) i))) &&& 4294967295)), (14, .long ((rs (r80 x.1) (wF row n whl k x.2) i).2.2.2.2.1)), (16, .long ((rs (r80 x.1) (wF row n whl k x.2) i).2.2.2.2.2.1)), (18, .long ((rs (r80 x.1) (wF row n whl k x.2) i).2.2.2.2.2.2.1)), (20, .int (nI (i + 1)))]) rfl ?_
              exact ih (i + 1) (by omega)
          exact loop4 (64) 0 (by omega)
        | succ zk ih =>
          intro i  hi
          refine j_iload hg 4 dM_hblock_133 rfl ?_
          refine j_bipush hg (v := 64) dM_hblock_135 (by decide) ?_
          refine j_nge_f hg (tgt := 274) (16 + i) 64 rfl rfl (by omega) (by omega) (by omega) dM_hblock_137 (by decide) ?_
          refine j_aload_n hg 0 dM_hblock_140 rfl rfl ?_
          refine j_get hg (C := RX4) (T := TX4) (N := 21) inX4 0 rfl rfl 9 (by decide) m337 rfl dM_hblock_141 ?_
          refine j_iload hg 4 dM_hblock_144 rfl ?_
          refine j_bipush hg (v := 15) dM_hblock_146 (by decide) ?_
          refine j_isub hg (v := nI ((16 + i) - 15)) dM_hblock_148 (pk_sub (a := 16 + i) (b := 15) (by omega)) ?_
          refine j_lald hg (v := (ws48 (wl16 row n whl k x.2 16) i) ((16 + i) - 15)) 3 ((16 + i) - 15) rfl rfl (by omega) (by omega) rfl dM_hblock_149 ?_
          refine j_bipush hg (v := 7) dM_hblock_150 (by decide) ?_
          refine j_callS hg (n := 2) (y := yM_turn) (rm := rm_M_turn) (Ws := (cT yM_turn cM_turn 3 (some .long))) (As := [.long ((ws48 (wl16 row n whl k x.2 16) i) ((16 + i) - 15)), .int 7]) (rest := []) (wr := [ob h 4 [.ref mt, .int (nI tn), .ref mo, .int (nI on), .ref mk, .ref mn, .ref mr, .int (nI rc), .ref mh, .ref mw, .ref mi, .ref mv, .ref mb, .ref ms, .ref mu, .ref mp, .ref mc, .ref mx, .ref mg, .ref ma, .int (nI tx)], aB E mr 1024 row, aL E mh 8 x.1, aL E mw 64 (ws48 (wl16 row n whl k x.2 16) i)]) (c_M_turn l E ((ws48 (wl16 row n whl k x.2 16) i) ((16 + i) - 15)) 7) (gdS m501 m502 m5 m503) rfl (by decide +kernel) ⟨by decide, by decide⟩ rfl rfl (Nat.le_of_ble_eq_true rfl) ⟨by decide, by decide⟩ [] [0, 1, 2, 3] rfl rfl (by decide) (by decide) (by decide) dM_hblock_152 (fun _ _ => ?_)
          show J E 25 g [ob h 4 [.ref mt, .int (nI tn), .ref mo, .int (nI on), .ref mk, .ref mn, .ref mr, .int (nI rc), .ref mh, .ref mw, .ref mi, .ref mv, .ref mb, .ref ms, .ref mu, .ref mp, .ref mc, .ref mx, .ref mg, .ref ma, .int (nI tx)], aB E mr 1024 row, aL E mh 8 x.1, aL E mw 64 (ws48 (wl16 row n whl k x.2 16) i)] [(0, .ref h), (1, .int (nI k)), (2, .int (nI n)), (3, .int (nI whl)), (4, .int (nI (16 + i)))] 0 0 155 [.long (mtn ((ws48 (wl16 row n whl k x.2 16) i) ((16 + i) - 15)) 7)]
          refine j_aload_n hg 0 dM_hblock_155 rfl rfl ?_
          refine j_get hg (C := RX4) (T := TX4) (N := 21) inX4 0 rfl rfl 9 (by decide) m337 rfl dM_hblock_156 ?_
          refine j_iload hg 4 dM_hblock_159 rfl ?_
          refine j_bipush hg (v := 15) dM_hblock_161 (by decide) ?_
          refine j_isub hg (v := nI ((16 + i) - 15)) dM_hblock_163 (pk_sub (a := 16 + i) (b := 15) (by omega)) ?_
          refine j_lald hg (v := (ws48 (wl16 row n whl k x.2 16) i) ((16 + i) - 15)) 3 ((16 + i) - 15) rfl rfl (by omega) (by omega) rfl dM_hblock_164 ?_
          refine j_bipush hg (v := 18) dM_hblock_165 (by decide) ?_
          refine j_callS hg (n := 2) (y := yM_turn) (rm := rm_M_turn) (Ws := (cT yM_turn cM_turn 3 (some .long))) (As := [.long ((ws48 (wl16 row n whl k x.2 16) i) ((16 + i) - 15)), .int 18]) (rest := [.long (mtn ((ws48 (wl16 row n whl k x.2 16) i) ((16 + i) - 15)) 7)]) (wr := [ob h 4 [.ref mt, .int (nI tn), .ref mo, .int (nI on), .ref mk, .ref mn, .ref mr, .int (nI rc), .ref mh, .ref mw, .ref mi, .ref mv, .ref mb, .ref ms, .ref mu, .ref mp, .ref mc, .ref mx, .ref mg, .ref ma, .int (nI tx)], aB E mr 1024 row, aL E mh 8 x.1, aL E mw 64 (ws48 (wl16 row n whl k x.2 16) i)]) (c_M_turn l E ((ws48 (wl16 row n whl k x.2 16) i) ((16 + i) - 15)) 18) (gdS m501 m502 m5 m503) rfl (by decide +kernel) ⟨by decide, by decide⟩ rfl rfl (Nat.le_of_ble_eq_true rfl) ⟨by decide, by decide⟩ [] [0, 1, 2, 3] rfl rfl (by decide) (by decide) (by decide) dM_hblock_167 (fun _ _ => ?_)
          show J E 25 g [ob h 4 [.ref mt, .int (nI tn), .ref mo, .int (nI on), .ref mk, .ref mn, .ref mr, .int (nI rc), .ref mh, .ref mw, .ref mi, .ref mv, .ref mb, .ref ms, .ref mu, .ref mp, .ref mc, .ref mx, .ref mg, .ref ma, .int (nI tx)], aB E mr 1024 row, aL E mh 8 x.1, aL E mw 64 (ws48 (wl16 row n whl k x.2 16) i)] [(0, .ref h), (1, .int (nI k)), (2, .int (nI n)), (3, .int (nI whl)), (4, .int (nI (16 + i)))] 0 0 170 [.long (mtn ((ws48 (wl16 row n whl k x.2 16) i) ((16 + i) - 15)) 18), .long (mtn ((ws48 (wl16 row n whl k x.2 16) i) ((16 + i) - 15)) 7)]
          refine j_lxor hg (v := (mtn ((ws48 (wl16 row n whl k x.2 16) i) ((16 + i) - 15)) 7) ^^^ (mtn ((ws48 (wl16 row n whl k x.2 16) i) ((16 + i) - 15)) 18)) dM_hblock_170 rfl ?_
          refine j_aload_n hg 0 dM_hblock_171 rfl rfl ?_
          refine j_get hg (C := RX4) (T := TX4) (N := 21) inX4 0 rfl rfl 9 (by decide) m337 rfl dM_hblock_172 ?_
          refine j_iload hg 4 dM_hblock_175 rfl ?_
          refine j_bipush hg (v := 15) dM_hblock_177 (by decide) ?_
          refine j_isub hg (v := nI ((16 + i) - 15)) dM_hblock_179 (pk_sub (a := 16 + i) (b := 15) (by omega)) ?_
          refine j_lald hg (v := (ws48 (wl16 row n whl k x.2 16) i) ((16 + i) - 15)) 3 ((16 + i) - 15) rfl rfl (by omega) (by omega) rfl dM_hblock_180 ?_
          refine j_iconst hg (v := 3) dM_hblock_181 (by decide) ?_
          refine j_lshr hg (v := lshr ((ws48 (wl16 row n whl k x.2 16) i) ((16 + i) - 15)) 3) dM_hblock_182 rfl ?_
          refine j_lxor hg (v := ((mtn ((ws48 (wl16 row n whl k x.2 16) i) ((16 + i) - 15)) 7) ^^^ (mtn ((ws48 (wl16 row n whl k x.2 16) i) ((16 + i) - 15)) 18)) ^^^ (lshr ((ws48 (wl16 row n whl k x.2 16) i) ((16 + i) - 15)) 3)) dM_hblock_183 rfl ?_
          refine j_lstore hg (lv' := [(5, .long (((mtn ((ws48 (wl16 row n whl k x.2 16) i) ((16 + i) - 15)) 7) ^^^ (mtn ((ws48 (wl16 row n whl k x.2 16) i) ((16 + i) - 15)) 18)) ^^^ (lshr ((ws48 (wl16 row n whl k x.2 16) i) ((16 + i) - 15)) 3))), (0, .ref h), (1, .int (nI k)), (2, .int (nI n)), (3, .int (nI whl)), (4, .int (nI (16 + i)))]) dM_hblock_184 (by decide) rfl ?_
          refine j_aload_n hg 1 dM_hblock_186 rfl rfl ?_
          refine j_get hg (C := RX4) (T := TX4) (N := 21) inX4 0 rfl rfl 9 (by decide) m337 rfl dM_hblock_187 ?_
          refine j_iload hg 5 dM_hblock_190 rfl ?_
          refine j_iconst hg (v := 2) dM_hblock_192 (by decide) ?_
          refine j_isub hg (v := nI ((16 + i) - 2)) dM_hblock_193 (pk_sub (a := 16 + i) (b := 2) (by omega)) ?_
          refine j_lald hg (v := (ws48 (wl16 row n whl k x.2 16) i) ((16 + i) - 2)) 3 ((16 + i) - 2) rfl rfl (by omega) (by omega) rfl dM_hblock_194 ?_
          refine j_bipush hg (v := 17) dM_hblock_195 (by decide) ?_
          refine j_callS hg (n := 2) (y := yM_turn) (rm := rm_M_turn) (Ws := (cT yM_turn cM_turn 3 (some .long))) (As := [.long ((ws48 (wl16 row n whl k x.2 16) i) ((16 + i) - 2)), .int 17]) (rest := []) (wr := [ob h 4 [.ref mt, .int (nI tn), .ref mo, .int (nI on), .ref mk, .ref mn, .ref mr, .int (nI rc), .ref mh, .ref mw, .ref mi, .ref mv, .ref mb, .ref ms, .ref mu, .ref mp, .ref mc, .ref mx, .ref mg, .ref ma, .int (nI tx)], aB E mr 1024 row, aL E mh 8 x.1, aL E mw 64 (ws48 (wl16 row n whl k x.2 16) i)]) (c_M_turn l E ((ws48 (wl16 row n whl k x.2 16) i) ((16 + i) - 2)) 17) (gdS m501 m502 m5 m503) rfl (by decide +kernel) ⟨by decide, by decide⟩ rfl rfl (Nat.le_of_ble_eq_true rfl) ⟨by decide, by decide⟩ [] [0, 1, 2, 3] rfl rfl (by decide) (by decide) (by decide) dM_hblock_197 (fun _ _ => ?_)
          show J E 25 g [ob h 4 [.ref mt, .int (nI tn), .ref mo, .int (nI on), .ref mk, .ref mn, .ref mr, .int (nI rc), .ref mh, .ref mw, .ref mi, .ref mv, .ref mb, .ref ms, .ref mu, .ref mp, .ref mc, .ref mx, .ref mg, .ref ma, .int (nI tx)], aB E mr 1024 row, aL E mh 8 x.1, aL E mw 64 (ws48 (wl16 row n whl k x.2 16) i)] [(5, .long (((mtn ((ws48 (wl16 row n whl k x.2 16) i) ((16 + i) - 15)) 7) ^^^ (mtn ((ws48 (wl16 row n whl k x.2 16) i) ((16 + i) - 15)) 18)) ^^^ (lshr ((ws48 (wl16 row n whl k x.2 16) i) ((16 + i) - 15)) 3))), (0, .ref h), (1, .int (nI k)), (2, .int (nI n)), (3, .int (nI whl)), (4, .int (nI (16 + i)))] 0 0 200 [.long (mtn ((ws48 (wl16 row n whl k x.2 16) i) ((16 + i) - 2)) 17)]
          refine j_aload_n hg 1 dM_hblock_200 rfl rfl ?_
          refine j_get hg (C := RX4) (T := TX4) (N := 21) inX4 0 rfl rfl 9 (by decide) m337 rfl dM_hblock_201 ?_
          refine j_iload hg 5 dM_hblock_204 rfl ?_
          refine j_iconst hg (v := 2) dM_hblock_206 (by decide) ?_
          refine j_isub hg (v := nI ((16 + i) - 2)) dM_hblock_207 (pk_sub (a := 16 + i) (b := 2) (by omega)) ?_
          refine j_lald hg (v := (ws48 (wl16 row n whl k x.2 16) i) ((16 + i) - 2)) 3 ((16 + i) - 2) rfl rfl (by omega) (by omega) rfl dM_hblock_208 ?_
          refine j_bipush hg (v := 19) dM_hblock_209 (by decide) ?_
          refine j_callS hg (n := 2) (y := yM_turn) (rm := rm_M_turn) (Ws := (cT yM_turn cM_turn 3 (some .long))) (As := [.long ((ws48 (wl16 row n whl k x.2 16) i) ((16 + i) - 2)), .int 19]) (rest := [.long (mtn ((ws48 (wl16 row n whl k x.2 16) i) ((16 + i) - 2)) 17)]) (wr := [ob h 4 [.ref mt, .int (nI tn), .ref mo, .int (nI on), .ref mk, .ref mn, .ref mr, .int (nI rc), .ref mh, .ref mw, .ref mi, .ref mv, .ref mb, .ref ms, .ref mu, .ref mp, .ref mc, .ref mx, .ref mg, .ref ma, .int (nI tx)], aB E mr 1024 row, aL E mh 8 x.1, aL E mw 64 (ws48 (wl16 row n whl k x.2 16) i)]) (c_M_turn l E ((ws48 (wl16 row n whl k x.2 16) i) ((16 + i) - 2)) 19) (gdS m501 m502 m5 m503) rfl (by decide +kernel) ⟨by decide, by decide⟩ rfl rfl (Nat.le_of_ble_eq_true rfl) ⟨by decide, by decide⟩ [] [0, 1, 2, 3] rfl rfl (by decide) (by decide) (by decide) dM_hblock_211 (fun _ _ => ?_)
          show J E 25 g [ob h 4 [.ref mt, .int (nI tn), .ref mo, .int (nI on), .ref mk, .ref mn, .ref mr, .int (nI rc), .ref mh, .ref mw, .ref mi, .ref mv, .ref mb, .ref ms, .ref mu, .ref mp, .ref mc, .ref mx, .ref mg, .ref ma, .int (nI tx)], aB E mr 1024 row, aL E mh 8 x.1, aL E mw 64 (ws48 (wl16 row n whl k x.2 16) i)] [(5, .long (((mtn ((ws48 (wl16 row n whl k x.2 16) i) ((16 + i) - 15)) 7) ^^^ (mtn ((ws48 (wl16 row n whl k x.2 16) i) ((16 + i) - 15)) 18)) ^^^ (lshr ((ws48 (wl16 row n whl k x.2 16) i) ((16 + i) - 15)) 3))), (0, .ref h), (1, .int (nI k)), (2, .int (nI n)), (3, .int (nI whl)), (4, .int (nI (16 + i)))] 0 0 214 [.long (mtn ((ws48 (wl16 row n whl k x.2 16) i) ((16 + i) - 2)) 19), .long (mtn ((ws48 (wl16 row n whl k x.2 16) i) ((16 + i) - 2)) 17)]
          refine j_lxor hg (v := (mtn ((ws48 (wl16 row n whl k x.2 16) i) ((16 + i) - 2)) 17) ^^^ (mtn ((ws48 (wl16 row n whl k x.2 16) i) ((16 + i) - 2)) 19)) dM_hblock_214 rfl ?_
          refine j_aload_n hg 1 dM_hblock_215 rfl rfl ?_
          refine j_get hg (C := RX4) (T := TX4) (N := 21) inX4 0 rfl rfl 9 (by decide) m337 rfl dM_hblock_216 ?_
          refine j_iload hg 5 dM_hblock_219 rfl ?_
          refine j_iconst hg (v := 2) dM_hblock_221 (by decide) ?_
          refine j_isub hg (v := nI ((16 + i) - 2)) dM_hblock_222 (pk_sub (a := 16 + i) (b := 2) (by omega)) ?_
          refine j_lald hg (v := (ws48 (wl16 row n whl k x.2 16) i) ((16 + i) - 2)) 3 ((16 + i) - 2) rfl rfl (by omega) (by omega) rfl dM_hblock_223 ?_
          refine j_bipush hg (v := 10) dM_hblock_224 (by decide) ?_
          refine j_lshr hg (v := lshr ((ws48 (wl16 row n whl k x.2 16) i) ((16 + i) - 2)) 10) dM_hblock_226 rfl ?_
          refine j_lxor hg (v := ((mtn ((ws48 (wl16 row n whl k x.2 16) i) ((16 + i) - 2)) 17) ^^^ (mtn ((ws48 (wl16 row n whl k x.2 16) i) ((16 + i) - 2)) 19)) ^^^ (lshr ((ws48 (wl16 row n whl k x.2 16) i) ((16 + i) - 2)) 10)) dM_hblock_227 rfl ?_
          refine j_lstore hg (lv' := [(7, .long (((mtn ((ws48 (wl16 row n whl k x.2 16) i) ((16 + i) - 2)) 17) ^^^ (mtn ((ws48 (wl16 row n whl k x.2 16) i) ((16 + i) - 2)) 19)) ^^^ (lshr ((ws48 (wl16 row n whl k x.2 16) i) ((16 + i) - 2)) 10))), (5, .long (((mtn ((ws48 (wl16 row n whl k x.2 16) i) ((16 + i) - 15)) 7) ^^^ (mtn ((ws48 (wl16 row n whl k x.2 16) i) ((16 + i) - 15)) 18)) ^^^ (lshr ((ws48 (wl16 row n whl k x.2 16) i) ((16 + i) - 15)) 3))), (0, .ref h), (1, .int (nI k)), (2, .int (nI n)), (3, .int (nI whl)), (4, .int (nI (16 + i)))]) dM_hblock_228 (by decide) rfl ?_
          refine j_aload_n hg 2 dM_hblock_230 rfl rfl ?_
          refine j_get hg (C := RX4) (T := TX4) (N := 21) inX4 0 rfl rfl 9 (by decide) m337 rfl dM_hblock_231 ?_
          refine j_iload hg 6 dM_hblock_234 rfl ?_
          refine j_aload_n hg 2 dM_hblock_236 rfl rfl ?_
          refine j_get hg (C := RX4) (T := TX4) (N := 21) inX4 0 rfl rfl 9 (by decide) m337 rfl dM_hblock_237 ?_
          refine j_iload hg 6 dM_hblock_240 rfl ?_
          refine j_bipush hg (v := 16) dM_hblock_242 (by decide) ?_
          refine j_isub hg (v := nI ((16 + i) - 16)) dM_hblock_244 (pk_sub (a := 16 + i) (b := 16) (by omega)) ?_
          refine j_lald hg (v := (ws48 (wl16 row n whl k x.2 16) i) ((16 + i) - 16)) 3 ((16 + i) - 16) rfl rfl (by omega) (by omega) rfl dM_hblock_245 ?_
          refine j_lload hg 1 dM_hblock_246 rfl ?_
          refine j_ladd hg (v := ((ws48 (wl16 row n whl k x.2 16) i) ((16 + i) - 16)) + (((mtn ((ws48 (wl16 row n whl k x.2 16) i) ((16 + i) - 15)) 7) ^^^ (mtn ((ws48 (wl16 row n whl k x.2 16) i) ((16 + i) - 15)) 18)) ^^^ (lshr ((ws48 (wl16 row n whl k x.2 16) i) ((16 + i) - 15)) 3))) dM_hblock_248 rfl ?_
          refine j_aload_n hg 2 dM_hblock_249 rfl rfl ?_
          refine j_get hg (C := RX4) (T := TX4) (N := 21) inX4 0 rfl rfl 9 (by decide) m337 rfl dM_hblock_250 ?_
          refine j_iload hg 6 dM_hblock_253 rfl ?_
          refine j_bipush hg (v := 7) dM_hblock_255 (by decide) ?_
          refine j_isub hg (v := nI ((16 + i) - 7)) dM_hblock_257 (pk_sub (a := 16 + i) (b := 7) (by omega)) ?_
          refine j_lald hg (v := (ws48 (wl16 row n whl k x.2 16) i) ((16 + i) - 7)) 3 ((16 + i) - 7) rfl rfl (by omega) (by omega) rfl dM_hblock_258 ?_
          refine j_ladd hg (v := (((ws48 (wl16 row n whl k x.2 16) i) ((16 + i) - 16)) + (((mtn ((ws48 (wl16 row n whl k x.2 16) i) ((16 + i) - 15)) 7) ^^^ (mtn ((ws48 (wl16 row n whl k x.2 16) i) ((16 + i) - 15)) 18)) ^^^ (lshr ((ws48 (wl16 row n whl k x.2 16) i) ((16 + i) - 15)) 3))) + ((ws48 (wl16 row n whl k x.2 16) i) ((16 + i) - 7))) dM_hblock_259 rfl ?_
          refine j_lload hg 0 dM_hblock_260 rfl ?_
          refine j_ladd hg (v := ((((ws48 (wl16 row n whl k x.2 16) i) ((16 + i) - 16)) + (((mtn ((ws48 (wl16 row n whl k x.2 16) i) ((16 + i) - 15)) 7) ^^^ (mtn ((ws48 (wl16 row n whl k x.2 16) i) ((16 + i) - 15)) 18)) ^^^ (lshr ((ws48 (wl16 row n whl k x.2 16) i) ((16 + i) - 15)) 3))) + ((ws48 (wl16 row n whl k x.2 16) i) ((16 + i) - 7))) + (((mtn ((ws48 (wl16 row n whl k x.2 16) i) ((16 + i) - 2)) 17) ^^^ (mtn ((ws48 (wl16 row n whl k x.2 16) i) ((16 + i) - 2)) 19)) ^^^ (lshr ((ws48 (wl16 row n whl k x.2 16) i) ((16 + i) - 2)) 10))) dM_hblock_262 rfl ?_
          refine j_ldc2 hg (v := 4294967295) m496 dM_hblock_263 ?_
          refine j_land hg (v := (((((ws48 (wl16 row n whl k x.2 16) i) ((16 + i) - 16)) + (((mtn ((ws48 (wl16 row n whl k x.2 16) i) ((16 + i) - 15)) 7) ^^^ (mtn ((ws48 (wl16 row n whl k x.2 16) i) ((16 + i) - 15)) 18)) ^^^ (lshr ((ws48 (wl16 row n whl k x.2 16) i) ((16 + i) - 15)) 3))) + ((ws48 (wl16 row n whl k x.2 16) i) ((16 + i) - 7))) + (((mtn ((ws48 (wl16 row n whl k x.2 16) i) ((16 + i) - 2)) 17) ^^^ (mtn ((ws48 (wl16 row n whl k x.2 16) i) ((16 + i) - 2)) 19)) ^^^ (lshr ((ws48 (wl16 row n whl k x.2 16) i) ((16 + i) - 2)) 10))) &&& 4294967295) dM_hblock_266 rfl ?_
          refine j_last hg (ws' := [ob h 4 [.ref mt, .int (nI tn), .ref mo, .int (nI on), .ref mk, .ref mn, .ref mr, .int (nI rc), .ref mh, .ref mw, .ref mi, .ref mv, .ref mb, .ref ms, .ref mu, .ref mp, .ref mc, .ref mx, .ref mg, .ref ma, .int (nI tx)], aB E mr 1024 row, aL E mh 8 x.1, aL E mw 64 (mext (ws48 (wl16 row n whl k x.2 16) i) (16 + i))]) 3 (16 + i) rfl rfl (by omega) (by omega) rfl dM_hblock_267 ?_
          refine j_iinc hg (kq := 6) (v := nI (16 + (i + 1))) (lv' := [(4, .int (nI (16 + (i + 1)))), (7, .long (((mtn ((ws48 (wl16 row n whl k x.2 16) i) ((16 + i) - 2)) 17) ^^^ (mtn ((ws48 (wl16 row n whl k x.2 16) i) ((16 + i) - 2)) 19)) ^^^ (lshr ((ws48 (wl16 row n whl k x.2 16) i) ((16 + i) - 2)) 10))), (5, .long (((mtn ((ws48 (wl16 row n whl k x.2 16) i) ((16 + i) - 15)) 7) ^^^ (mtn ((ws48 (wl16 row n whl k x.2 16) i) ((16 + i) - 15)) 18)) ^^^ (lshr ((ws48 (wl16 row n whl k x.2 16) i) ((16 + i) - 15)) 3))), (0, .ref h), (1, .int (nI k)), (2, .int (nI n)), (3, .int (nI whl))]) dM_hblock_268 rfl (Eq.trans (nI_add (16 + i) 1) (congrArg nI (by omega))) (by decide) rfl ?_
          refine j_goto hg (tgt := 133) dM_hblock_271 (by decide) ?_
          refine j_pick [3, 4, 5, 6, 0] (lv' := [(0, .ref h), (1, .int (nI k)), (2, .int (nI n)), (3, .int (nI whl)), (4, .int (nI (16 + (i + 1))))]) rfl ?_
          exact ih (i + 1) (by omega)
      exact loop3 (48) 0 (by omega)
    | succ zk ih =>
      intro i  hi
      refine j_iload hg 4 dM_hblock_3 rfl ?_
      refine j_bipush hg (v := 16) dM_hblock_5 (by decide) ?_
      refine j_nge_f hg (tgt := 129) i 16 rfl rfl (by omega) (by omega) (by omega) dM_hblock_7 (by decide) ?_
      refine j_lconst hg (v := 0) dM_hblock_10 (by decide) ?_
      refine j_lstore hg (lv' := [(5, .long 0), (0, .ref h), (1, .int (nI k)), (2, .int (nI n)), (3, .int (nI whl)), (4, .int (nI i))]) dM_hblock_11 (by decide) rfl ?_
      refine j_iconst hg (v := 0) dM_hblock_13 (by decide) ?_
      refine j_istore hg (lv' := [(7, .int 0), (5, .long 0), (0, .ref h), (1, .int (nI k)), (2, .int (nI n)), (3, .int (nI whl)), (4, .int (nI i))]) dM_hblock_14 (by decide) rfl ?_
      refine j_pick [2, 3, 4, 5, 6, 1, 0] (lv' := [(0, .ref h), (1, .int (nI k)), (2, .int (nI n)), (3, .int (nI whl)), (4, .int (nI i)), (5, .long 0), (7, .int 0)]) rfl ?_
      have loop2 : ∀ (zk j : Nat), j + zk = 4 → J E 25 g [ob h 4 [.ref mt, .int (nI tn), .ref mo, .int (nI on), .ref mk, .ref mn, .ref mr, .int (nI rc), .ref mh, .ref mw, .ref mi, .ref mv, .ref mb, .ref ms, .ref mu, .ref mp, .ref mc, .ref mx, .ref mg, .ref ma, .int (nI tx)], aB E mr 1024 row, aL E mh 8 x.1, aL E mw 64 (wl16 row n whl k x.2 i)] [(0, .ref h), (1, .int (nI k)), (2, .int (nI n)), (3, .int (nI whl)), (4, .int (nI i)), (5, .long (wx row n whl k i j)), (7, .int (nI j))] 0 0 16 [] := by
        intro zk
        induction zk with
        | zero =>
          intro j  hi
          obtain rfl : 4 = j := by omega
          refine j_iload hg 6 dM_hblock_16 rfl ?_
          refine j_iconst hg (v := 4) dM_hblock_18 (by decide) ?_
          refine j_nge_t hg (tgt := 114) 4 4 rfl rfl (by omega) (by omega) (by omega) dM_hblock_19 (by decide) ?_
          refine j_aload_n hg 0 dM_hblock_114 rfl rfl ?_
          refine j_get hg (C := RX4) (T := TX4) (N := 21) inX4 0 rfl rfl 9 (by decide) m337 rfl dM_hblock_115 ?_
          refine j_iload hg 4 dM_hblock_118 rfl ?_
          refine j_lload hg 5 dM_hblock_120 rfl ?_
          refine j_last hg (ws' := [ob h 4 [.ref mt, .int (nI tn), .ref mo, .int (nI on), .ref mk, .ref mn, .ref mr, .int (nI rc), .ref mh, .ref mw, .ref mi, .ref mv, .ref mb, .ref ms, .ref mu, .ref mp, .ref mc, .ref mx, .ref mg, .ref ma, .int (nI tx)], aB E mr 1024 row, aL E mh 8 x.1, aL E mw 64 (vp_updL (wl16 row n whl k x.2 i) i (wx row n whl k i 4))]) 3 i rfl rfl (by omega) (by omega) rfl dM_hblock_122 ?_
          refine j_iinc hg (kq := 4) (v := nI (i + 1)) (lv' := [(4, .int (nI (i + 1))), (0, .ref h), (1, .int (nI k)), (2, .int (nI n)), (3, .int (nI whl)), (5, .long (wx row n whl k i 4)), (7, .int 4)]) dM_hblock_123 rfl (nI_add i 1) (by decide) rfl ?_
          refine j_goto hg (tgt := 3) dM_hblock_126 (by decide) ?_
          refine j_pick [1, 2, 3, 4, 0] (lv' := [(0, .ref h), (1, .int (nI k)), (2, .int (nI n)), (3, .int (nI whl)), (4, .int (nI (i + 1)))]) rfl ?_
          exact ih (i + 1) (by omega)
        | succ zk ih =>
          intro j  hi
          refine j_iload hg 6 dM_hblock_16 rfl ?_
          refine j_iconst hg (v := 4) dM_hblock_18 (by decide) ?_
          refine j_nge_f hg (tgt := 114) j 4 rfl rfl (by omega) (by omega) (by omega) dM_hblock_19 (by decide) ?_
          refine j_iload_n hg 1 dM_hblock_22 rfl rfl ?_
          refine j_iconst hg (v := 4) dM_hblock_23 (by decide) ?_
          refine j_iload hg 4 dM_hblock_24 rfl ?_
          refine j_imul hg (v := nI (4 * i)) dM_hblock_26 (pk_mul 4 i) ?_
          refine j_iadd hg (v := nI (k + (4 * i))) dM_hblock_27 (nI_add k (4 * i)) ?_
          refine j_iload hg 6 dM_hblock_28 rfl ?_
          refine j_iadd hg (v := nI (k + (4 * i) + j)) dM_hblock_30 (nI_add (k + (4 * i)) j) ?_
          refine j_istore hg (lv' := [(8, .int (nI (k + (4 * i) + j))), (0, .ref h), (1, .int (nI k)), (2, .int (nI n)), (3, .int (nI whl)), (4, .int (nI i)), (5, .long (wx row n whl k i j)), (7, .int (nI j))]) dM_hblock_31 (by decide) rfl ?_
          refine j_iload hg 0 dM_hblock_33 rfl ?_
          refine j_iload_n hg 3 dM_hblock_35 rfl rfl ?_
          refine j_nge hg (tgt := 53) (k + (4 * i) + j) n rfl rfl (by omega) (by omega) dM_hblock_36 (by decide) (fun hc => ?_) (fun hc => ?_)
          · skip
            refine j_iload hg 0 dM_hblock_53 rfl ?_
            refine j_iload_n hg 3 dM_hblock_55 rfl rfl ?_
            refine j_nne hg (tgt := 65) (k + (4 * i) + j) n rfl rfl (by omega) (by omega) dM_hblock_56 (by decide) (fun hd => ?_) (fun hd => ?_)
            · skip
              refine j_iload hg 0 dM_hblock_65 rfl ?_
              refine j_iload_n hg 4 dM_hblock_67 rfl rfl ?_
              refine j_iconst hg (v := 4) dM_hblock_68 (by decide) ?_
              refine j_isub hg (v := nI (whl - 4)) dM_hblock_69 (pk_sub (a := whl) (b := 4) (by omega)) ?_
              refine j_nlt hg (tgt := 94) (k + (4 * i) + j) (whl - 4) rfl rfl (by omega) (by omega) dM_hblock_70 (by decide) (fun he => ?_) (fun he => ?_)
              · skip
                refine j_iconst hg (v := 0) dM_hblock_94 (by decide) ?_
                refine j_topi (show (0 : Int32) = bsel row n whl (k + 4 * i + j) from by unfold bsel; rw [if_neg (by omega), if_neg (by omega), if_neg (by omega)]) ?_
                refine j_istore hg (lv' := [(9, .int (bsel row n whl (k + 4 * i + j))), (8, .int (nI (k + (4 * i) + j))), (0, .ref h), (1, .int (nI k)), (2, .int (nI n)), (3, .int (nI whl)), (4, .int (nI i)), (5, .long (wx row n whl k i j)), (7, .int (nI j))]) dM_hblock_95 (by decide) rfl ?_
                refine j_lload hg 7 dM_hblock_97 rfl ?_
                refine j_bipush hg (v := 8) dM_hblock_99 (by decide) ?_
                refine j_lshl hg (v := lshl (wx row n whl k i j) 8) dM_hblock_101 rfl ?_
                refine j_iload hg 0 dM_hblock_102 rfl ?_
                refine j_i2l hg (v := (bsel row n whl (k + 4 * i + j)).toInt64) dM_hblock_104 rfl ?_
                refine j_lor hg (v := (lshl (wx row n whl k i j) 8) ||| ((bsel row n whl (k + 4 * i + j)).toInt64)) dM_hblock_105 rfl ?_
                refine j_lstore hg (lv' := [(5, .long ((lshl (wx row n whl k i j) 8) ||| ((bsel row n whl (k + 4 * i + j)).toInt64))), (9, .int (bsel row n whl (k + 4 * i + j))), (8, .int (nI (k + (4 * i) + j))), (0, .ref h), (1, .int (nI k)), (2, .int (nI n)), (3, .int (nI whl)), (4, .int (nI i)), (7, .int (nI j))]) dM_hblock_106 (by decide) rfl ?_
                refine j_iinc hg (kq := 8) (v := nI (j + 1)) (lv' := [(7, .int (nI (j + 1))), (5, .long ((lshl (wx row n whl k i j) 8) ||| ((bsel row n whl (k + 4 * i + j)).toInt64))), (9, .int (bsel row n whl (k + 4 * i + j))), (8, .int (nI (k + (4 * i) + j))), (0, .ref h), (1, .int (nI k)), (2, .int (nI n)), (3, .int (nI whl)), (4, .int (nI i))]) dM_hblock_108 rfl (nI_add j 1) (by decide) rfl ?_
                refine j_goto hg (tgt := 16) dM_hblock_111 (by decide) ?_
                refine j_pick [4, 5, 6, 7, 8, 1, 0] (lv' := [(0, .ref h), (1, .int (nI k)), (2, .int (nI n)), (3, .int (nI whl)), (4, .int (nI i)), (5, .long ((lshl (wx row n whl k i j) 8) ||| ((bsel row n whl (k + 4 * i + j)).toInt64))), (7, .int (nI (j + 1)))]) rfl ?_
                exact ih (j + 1) (by omega)
              · skip
                refine j_bipush hg (v := 8) dM_hblock_73 (by decide) ?_
                refine j_iload_n hg 3 dM_hblock_75 rfl rfl ?_
                refine j_imul hg (v := nI (8 * n)) dM_hblock_76 (pk_mul 8 n) ?_
                refine j_bipush hg (v := 8) dM_hblock_77 (by decide) ?_
                refine j_iload_n hg 4 dM_hblock_79 rfl rfl ?_
                refine j_iconst hg (v := 1) dM_hblock_80 (by decide) ?_
                refine j_isub hg (v := nI (whl - 1)) dM_hblock_81 (pk_sub (a := whl) (b := 1) (by omega)) ?_
                refine j_iload hg 0 dM_hblock_82 rfl ?_
                refine j_isub hg (v := nI ((whl - 1) - (k + (4 * i) + j))) dM_hblock_84 (pk_sub (a := whl - 1) (b := k + (4 * i) + j) (by omega)) ?_
                refine j_imul hg (v := nI (8 * ((whl - 1) - (k + (4 * i) + j)))) dM_hblock_85 (pk_mul 8 ((whl - 1) - (k + (4 * i) + j))) ?_
                refine j_ishr hg (v := shr (nI (8 * n)) (nI (8 * ((whl - 1) - (k + (4 * i) + j))))) dM_hblock_86 rfl ?_
                refine j_sipush hg (v := 255) dM_hblock_87 (by decide) ?_
                refine j_iand hg (v := (shr (nI (8 * n)) (nI (8 * ((whl - 1) - (k + (4 * i) + j))))) &&& 255) dM_hblock_90 rfl ?_
                refine j_goto hg (tgt := 95) dM_hblock_91 (by decide) ?_
                refine j_topi (show ((shr (nI (8 * n)) (nI (8 * ((whl - 1) - (k + (4 * i) + j))))) &&& 255) = bsel row n whl (k + 4 * i + j) from by unfold bsel; rw [if_neg (by omega), if_neg (by omega), if_pos (by omega)]) ?_
                refine j_istore hg (lv' := [(9, .int (bsel row n whl (k + 4 * i + j))), (8, .int (nI (k + (4 * i) + j))), (0, .ref h), (1, .int (nI k)), (2, .int (nI n)), (3, .int (nI whl)), (4, .int (nI i)), (5, .long (wx row n whl k i j)), (7, .int (nI j))]) dM_hblock_95 (by decide) rfl ?_
                refine j_lload hg 7 dM_hblock_97 rfl ?_
                refine j_bipush hg (v := 8) dM_hblock_99 (by decide) ?_
                refine j_lshl hg (v := lshl (wx row n whl k i j) 8) dM_hblock_101 rfl ?_
                refine j_iload hg 0 dM_hblock_102 rfl ?_
                refine j_i2l hg (v := (bsel row n whl (k + 4 * i + j)).toInt64) dM_hblock_104 rfl ?_
                refine j_lor hg (v := (lshl (wx row n whl k i j) 8) ||| ((bsel row n whl (k + 4 * i + j)).toInt64)) dM_hblock_105 rfl ?_
                refine j_lstore hg (lv' := [(5, .long ((lshl (wx row n whl k i j) 8) ||| ((bsel row n whl (k + 4 * i + j)).toInt64))), (9, .int (bsel row n whl (k + 4 * i + j))), (8, .int (nI (k + (4 * i) + j))), (0, .ref h), (1, .int (nI k)), (2, .int (nI n)), (3, .int (nI whl)), (4, .int (nI i)), (7, .int (nI j))]) dM_hblock_106 (by decide) rfl ?_
                refine j_iinc hg (kq := 8) (v := nI (j + 1)) (lv' := [(7, .int (nI (j + 1))), (5, .long ((lshl (wx row n whl k i j) 8) ||| ((bsel row n whl (k + 4 * i + j)).toInt64))), (9, .int (bsel row n whl (k + 4 * i + j))), (8, .int (nI (k + (4 * i) + j))), (0, .ref h), (1, .int (nI k)), (2, .int (nI n)), (3, .int (nI whl)), (4, .int (nI i))]) dM_hblock_108 rfl (nI_add j 1) (by decide) rfl ?_
                refine j_goto hg (tgt := 16) dM_hblock_111 (by decide) ?_
                refine j_pick [4, 5, 6, 7, 8, 1, 0] (lv' := [(0, .ref h), (1, .int (nI k)), (2, .int (nI n)), (3, .int (nI whl)), (4, .int (nI i)), (5, .long ((lshl (wx row n whl k i j) 8) ||| ((bsel row n whl (k + 4 * i + j)).toInt64))), (7, .int (nI (j + 1)))]) rfl ?_
                exact ih (j + 1) (by omega)
            · skip
              refine j_sipush hg (v := 128) dM_hblock_59 (by decide) ?_
              refine j_goto hg (tgt := 95) dM_hblock_62 (by decide) ?_
              refine j_topi (show (128 : Int32) = bsel row n whl (k + 4 * i + j) from by unfold bsel; rw [if_neg (by omega), if_pos (by omega)]) ?_
              refine j_istore hg (lv' := [(9, .int (bsel row n whl (k + 4 * i + j))), (8, .int (nI (k + (4 * i) + j))), (0, .ref h), (1, .int (nI k)), (2, .int (nI n)), (3, .int (nI whl)), (4, .int (nI i)), (5, .long (wx row n whl k i j)), (7, .int (nI j))]) dM_hblock_95 (by decide) rfl ?_
              refine j_lload hg 7 dM_hblock_97 rfl ?_
              refine j_bipush hg (v := 8) dM_hblock_99 (by decide) ?_
              refine j_lshl hg (v := lshl (wx row n whl k i j) 8) dM_hblock_101 rfl ?_
              refine j_iload hg 0 dM_hblock_102 rfl ?_
              refine j_i2l hg (v := (bsel row n whl (k + 4 * i + j)).toInt64) dM_hblock_104 rfl ?_
              refine j_lor hg (v := (lshl (wx row n whl k i j) 8) ||| ((bsel row n whl (k + 4 * i + j)).toInt64)) dM_hblock_105 rfl ?_
              refine j_lstore hg (lv' := [(5, .long ((lshl (wx row n whl k i j) 8) ||| ((bsel row n whl (k + 4 * i + j)).toInt64))), (9, .int (bsel row n whl (k + 4 * i + j))), (8, .int (nI (k + (4 * i) + j))), (0, .ref h), (1, .int (nI k)), (2, .int (nI n)), (3, .int (nI whl)), (4, .int (nI i)), (7, .int (nI j))]) dM_hblock_106 (by decide) rfl ?_
              refine j_iinc hg (kq := 8) (v := nI (j + 1)) (lv' := [(7, .int (nI (j + 1))), (5, .long ((lshl (wx row n whl k i j) 8) ||| ((bsel row n whl (k + 4 * i + j)).toInt64))), (9, .int (bsel row n whl (k + 4 * i + j))), (8, .int (nI (k + (4 * i) + j))), (0, .ref h), (1, .int (nI k)), (2, .int (nI n)), (3, .int (nI whl)), (4, .int (nI i))]) dM_hblock_108 rfl (nI_add j 1) (by decide) rfl ?_
              refine j_goto hg (tgt := 16) dM_hblock_111 (by decide) ?_
              refine j_pick [4, 5, 6, 7, 8, 1, 0] (lv' := [(0, .ref h), (1, .int (nI k)), (2, .int (nI n)), (3, .int (nI whl)), (4, .int (nI i)), (5, .long ((lshl (wx row n whl k i j) 8) ||| ((bsel row n whl (k + 4 * i + j)).toInt64))), (7, .int (nI (j + 1)))]) rfl ?_
              exact ih (j + 1) (by omega)
          · skip
            refine j_aload_n hg 1 dM_hblock_39 rfl rfl ?_
            refine j_get hg (C := RX4) (T := TX4) (N := 21) inX4 0 rfl rfl 6 (by decide) m334 rfl dM_hblock_40 ?_
            refine j_iload hg 0 dM_hblock_43 rfl ?_
            refine j_bald hg (v := row (k + (4 * i) + j)) 1 (k + (4 * i) + j) rfl rfl (by omega) (by omega) rfl dM_hblock_45 ?_
            refine j_sipush hg (v := 255) dM_hblock_46 (by decide) ?_
            refine j_iand hg (v := (row (k + (4 * i) + j)) &&& 255) dM_hblock_49 rfl ?_
            refine j_goto hg (tgt := 95) dM_hblock_50 (by decide) ?_
            refine j_topi (show ((row (k + (4 * i) + j)) &&& 255) = bsel row n whl (k + 4 * i + j) from by unfold bsel; rw [if_pos (by omega)]) ?_
            refine j_istore hg (lv' := [(9, .int (bsel row n whl (k + 4 * i + j))), (8, .int (nI (k + (4 * i) + j))), (0, .ref h), (1, .int (nI k)), (2, .int (nI n)), (3, .int (nI whl)), (4, .int (nI i)), (5, .long (wx row n whl k i j)), (7, .int (nI j))]) dM_hblock_95 (by decide) rfl ?_
            refine j_lload hg 7 dM_hblock_97 rfl ?_
            refine j_bipush hg (v := 8) dM_hblock_99 (by decide) ?_
            refine j_lshl hg (v := lshl (wx row n whl k i j) 8) dM_hblock_101 rfl ?_
            refine j_iload hg 0 dM_hblock_102 rfl ?_
            refine j_i2l hg (v := (bsel row n whl (k + 4 * i + j)).toInt64) dM_hblock_104 rfl ?_
            refine j_lor hg (v := (lshl (wx row n whl k i j) 8) ||| ((bsel row n whl (k + 4 * i + j)).toInt64)) dM_hblock_105 rfl ?_
            refine j_lstore hg (lv' := [(5, .long ((lshl (wx row n whl k i j) 8) ||| ((bsel row n whl (k + 4 * i + j)).toInt64))), (9, .int (bsel row n whl (k + 4 * i + j))), (8, .int (nI (k + (4 * i) + j))), (0, .ref h), (1, .int (nI k)), (2, .int (nI n)), (3, .int (nI whl)), (4, .int (nI i)), (7, .int (nI j))]) dM_hblock_106 (by decide) rfl ?_
            refine j_iinc hg (kq := 8) (v := nI (j + 1)) (lv' := [(7, .int (nI (j + 1))), (5, .long ((lshl (wx row n whl k i j) 8) ||| ((bsel row n whl (k + 4 * i + j)).toInt64))), (9, .int (bsel row n whl (k + 4 * i + j))), (8, .int (nI (k + (4 * i) + j))), (0, .ref h), (1, .int (nI k)), (2, .int (nI n)), (3, .int (nI whl)), (4, .int (nI i))]) dM_hblock_108 rfl (nI_add j 1) (by decide) rfl ?_
            refine j_goto hg (tgt := 16) dM_hblock_111 (by decide) ?_
            refine j_pick [4, 5, 6, 7, 8, 1, 0] (lv' := [(0, .ref h), (1, .int (nI k)), (2, .int (nI n)), (3, .int (nI whl)), (4, .int (nI i)), (5, .long ((lshl (wx row n whl k i j) 8) ||| ((bsel row n whl (k + 4 * i + j)).toInt64))), (7, .int (nI (j + 1)))]) rfl ?_
            exact ih (j + 1) (by omega)
      exact loop2 (4) 0 (by omega)
  exact loop (16) 0 (by omega)

def rm_M_hashTo : Room := { frames := 2, cells := 0, slots := 0, locals := 66 }
set_option maxHeartbeats 1000000 in
set_option maxRecDepth 100000 in
theorem c_M_hashTo (l : Launch) (E : Ev) (h mt mo mk mn mr mh mw mi mv mb ms mu mp mc mx mg ma : Nat) (tn on rc tx : Nat) (rr n : Nat) (row to : Nat → Int32) (x : H2) (k : Nat) (h1 : k + 32 ≤ n) (h2 : rc ≤ 1024) (h3 : n < 1000000) : MC E l yM_hashTo (cT yM_hashTo cM_hashTo 5 none) rm_M_hashTo [.ref h, .ref rr, .int (nI k)] [ob h 4 [.ref mt, .int (nI tn), .ref mo, .int (nI on), .ref mk, .ref mn, .ref mr, .int (nI rc), .ref mh, .ref mw, .ref mi, .ref mv, .ref mb, .ref ms, .ref mu, .ref mp, .ref mc, .ref mx, .ref mg, .ref ma, .int (nI tx)], aB E mr 1024 row, aL E mh 8 x.1, aL E mw 64 x.2, aB E rr n to] Unit (fun _ => True) (fun _ => none) (fun _ => [ob h 4 [.ref mt, .int (nI tn), .ref mo, .int (nI on), .ref mk, .ref mn, .ref mr, .int (nI rc), .ref mh, .ref mw, .ref mi, .ref mv, .ref mb, .ref ms, .ref mu, .ref mp, .ref mc, .ref mx, .ref mg, .ref ma, .int (nI tx)], aB E mr 1024 row, aL E mh 8 ((hsF x row rc).1), aL E mw 64 ((hsF x row rc).2), aB E rr n (toF to (hsF x row rc).1 k 32)]) := by
  refine MC.of (cc := cM_hashTo) (nL := 5) (ret := none) (by decide) rfl cT_in (Nat.le_of_ble_eq_true rfl) (fun g hg hR => ?_)
  show J E 5 g [ob h 4 [.ref mt, .int (nI tn), .ref mo, .int (nI on), .ref mk, .ref mn, .ref mr, .int (nI rc), .ref mh, .ref mw, .ref mi, .ref mv, .ref mb, .ref ms, .ref mu, .ref mp, .ref mc, .ref mx, .ref mg, .ref ma, .int (nI tx)], aB E mr 1024 row, aL E mh 8 x.1, aL E mw 64 x.2, aB E rr n to] [(0, .ref h), (1, .ref rr), (2, .int (nI k))] 0 0 0 []
  refine j_iconst hg (v := 0) dM_hashTo_0 (by decide) ?_
  refine j_istore_n hg (lv' := [(3, .int 0), (0, .ref h), (1, .ref rr), (2, .int (nI k))]) dM_hashTo_1 rfl (by decide) rfl ?_
  refine j_pick [1, 2, 3, 0] (lv' := [(0, .ref h), (1, .ref rr), (2, .int (nI k)), (3, .int 0)]) rfl ?_
  have loop : ∀ (zk i : Nat), i + zk = 8 → J E 5 g [ob h 4 [.ref mt, .int (nI tn), .ref mo, .int (nI on), .ref mk, .ref mn, .ref mr, .int (nI rc), .ref mh, .ref mw, .ref mi, .ref mv, .ref mb, .ref ms, .ref mu, .ref mp, .ref mc, .ref mx, .ref mg, .ref ma, .int (nI tx)], aB E mr 1024 row, aL E mh 8 (hb8 x.1 i), aL E mw 64 x.2, aB E rr n to] [(0, .ref h), (1, .ref rr), (2, .int (nI k)), (3, .int (nI i))] 0 0 2 [] := by
    intro zk
    induction zk with
    | zero =>
      intro i  hi
      obtain rfl : 8 = i := by omega
      refine j_iload_n hg 3 dM_hashTo_2 rfl rfl ?_
      refine j_bipush hg (v := 8) dM_hashTo_3 (by decide) ?_
      refine j_nge_t hg (tgt := 30) 8 8 rfl rfl (by omega) (by omega) (by omega) dM_hashTo_5 (by decide) ?_
      refine j_aload_n hg 0 dM_hashTo_30 rfl rfl ?_
      refine j_get hg (C := RX4) (T := TX4) (N := 21) inX4 0 rfl rfl 7 (by decide) m335 rfl dM_hashTo_31 ?_
      refine j_bipush hg (v := 72) dM_hashTo_34 (by decide) ?_
      refine j_iadd hg (v := nI (rc + 72)) dM_hashTo_36 (nI_add rc 72) ?_
      refine j_bipush hg (v := 64) dM_hashTo_37 (by decide) ?_
      refine j_idiv hg (v := nI ((rc + 72) / 64)) dM_hashTo_39 (by decide) (pk_div (a := rc + 72) (d := 64) (by omega) (by decide) (by decide)) ?_
      refine j_bipush hg (v := 64) dM_hashTo_40 (by decide) ?_
      refine j_imul hg (v := nI (((rc + 72) / 64) * 64)) dM_hashTo_42 (pk_mul ((rc + 72) / 64) 64) ?_
      refine j_istore_n hg (lv' := [(3, .int (nI (((rc + 72) / 64) * 64))), (0, .ref h), (1, .ref rr), (2, .int (nI k))]) dM_hashTo_43 rfl (by decide) rfl ?_
      refine j_iconst hg (v := 0) dM_hashTo_44 (by decide) ?_
      refine j_istore hg (lv' := [(4, .int 0), (3, .int (nI (((rc + 72) / 64) * 64))), (0, .ref h), (1, .ref rr), (2, .int (nI k))]) dM_hashTo_45 (by decide) rfl ?_
      show J E 5 g [ob h 4 [.ref mt, .int (nI tn), .ref mo, .int (nI on), .ref mk, .ref mn, .ref mr, .int (nI rc), .ref mh, .ref mw, .ref mi, .ref mv, .ref mb, .ref ms, .ref mu, .ref mp, .ref mc, .ref mx, .ref mg, .ref ma, .int (nI tx)], aB E mr 1024 row, aL E mh 8 ((hb8 x.1 8, x.2).1), aL E mw 64 ((hb8 x.1 8, x.2).2), aB E rr n to] [(4, .int 0), (3, .int (nI (((rc + 72) / 64) * 64))), (0, .ref h), (1, .ref rr), (2, .int (nI k))] 0 0 47 []
      refine j_pick [2, 3, 4, 1, 0] (lv' := [(0, .ref h), (1, .ref rr), (2, .int (nI k)), (3, .int (nI (((rc + 72) / 64) * 64))), (4, .int 0)]) rfl ?_
      have loop2 : ∀ (zk i : Nat), i + zk = (rc + 72) / 64 → J E 5 g [ob h 4 [.ref mt, .int (nI tn), .ref mo, .int (nI on), .ref mk, .ref mn, .ref mr, .int (nI rc), .ref mh, .ref mw, .ref mi, .ref mv, .ref mb, .ref ms, .ref mu, .ref mp, .ref mc, .ref mx, .ref mg, .ref ma, .int (nI tx)], aB E mr 1024 row, aL E mh 8 ((hbs (hb8 x.1 8, x.2) row rc ((rc + 72) / 64 * 64) i).1), aL E mw 64 ((hbs (hb8 x.1 8, x.2) row rc ((rc + 72) / 64 * 64) i).2), aB E rr n to] [(0, .ref h), (1, .ref rr), (2, .int (nI k)), (3, .int (nI ((rc + 72) / 64 * 64))), (4, .int (nI (64 * i)))] 0 0 47 [] := by
        intro zk
        induction zk with
        | zero =>
          intro i  hi
          obtain rfl : (rc + 72) / 64 = i := by omega
          refine j_iload hg 4 dM_hashTo_47 rfl ?_
          refine j_iload_n hg 3 dM_hashTo_49 rfl rfl ?_
          refine j_nge_t hg (tgt := 70) (64 * ((rc + 72) / 64)) ((rc + 72) / 64 * 64) rfl rfl (by omega) (by omega) (by omega) dM_hashTo_50 (by decide) ?_
          refine j_iconst hg (v := 0) dM_hashTo_70 (by decide) ?_
          refine j_istore hg (lv' := [(4, .int 0), (0, .ref h), (1, .ref rr), (2, .int (nI k)), (3, .int (nI ((rc + 72) / 64 * 64)))]) dM_hashTo_71 (by decide) rfl ?_
          show J E 5 g [ob h 4 [.ref mt, .int (nI tn), .ref mo, .int (nI on), .ref mk, .ref mn, .ref mr, .int (nI rc), .ref mh, .ref mw, .ref mi, .ref mv, .ref mb, .ref ms, .ref mu, .ref mp, .ref mc, .ref mx, .ref mg, .ref ma, .int (nI tx)], aB E mr 1024 row, aL E mh 8 ((hsF x row rc).1), aL E mw 64 ((hsF x row rc).2), aB E rr n to] [(4, .int 0), (0, .ref h), (1, .ref rr), (2, .int (nI k)), (3, .int (nI ((rc + 72) / 64 * 64)))] 0 0 73 []
          refine j_pick [1, 2, 3, 0] (lv' := [(0, .ref h), (1, .ref rr), (2, .int (nI k)), (4, .int 0)]) rfl ?_
          have loop3 : ∀ (zk i : Nat), i + zk = 32 → J E 5 g [ob h 4 [.ref mt, .int (nI tn), .ref mo, .int (nI on), .ref mk, .ref mn, .ref mr, .int (nI rc), .ref mh, .ref mw, .ref mi, .ref mv, .ref mb, .ref ms, .ref mu, .ref mp, .ref mc, .ref mx, .ref mg, .ref ma, .int (nI tx)], aB E mr 1024 row, aL E mh 8 ((hsF x row rc).1), aL E mw 64 ((hsF x row rc).2), aB E rr n (toF to (hsF x row rc).1 k i)] [(0, .ref h), (1, .ref rr), (2, .int (nI k)), (4, .int (nI i))] 0 0 73 [] := by
            intro zk
            induction zk with
            | zero =>
              intro i  hi
              obtain rfl : 32 = i := by omega
              refine j_iload hg 3 dM_hashTo_73 rfl ?_
              refine j_bipush hg (v := 32) dM_hashTo_75 (by decide) ?_
              refine j_nge_t hg (tgt := 114) 32 32 rfl rfl (by omega) (by omega) (by omega) dM_hashTo_77 (by decide) ?_
              exact j_vret hg hR () trivial rfl [0, 1, 2, 3, 4] rfl (by decide) (by decide) (by decide) dM_hashTo_114
            | succ zk ih =>
              intro i  hi
              refine j_iload hg 3 dM_hashTo_73 rfl ?_
              refine j_bipush hg (v := 32) dM_hashTo_75 (by decide) ?_
              refine j_nge_f hg (tgt := 114) i 32 rfl rfl (by omega) (by omega) (by omega) dM_hashTo_77 (by decide) ?_
              refine j_aload_n hg 1 dM_hashTo_80 rfl rfl ?_
              refine j_iload_n hg 2 dM_hashTo_81 rfl rfl ?_
              refine j_iload hg 3 dM_hashTo_82 rfl ?_
              refine j_iadd hg (v := nI (k + i)) dM_hashTo_84 (nI_add k i) ?_
              refine j_aload_n hg 0 dM_hashTo_85 rfl rfl ?_
              refine j_get hg (C := RX4) (T := TX4) (N := 21) inX4 0 rfl rfl 8 (by decide) m336 rfl dM_hashTo_86 ?_
              refine j_iload hg 3 dM_hashTo_89 rfl ?_
              refine j_iconst hg (v := 4) dM_hashTo_91 (by decide) ?_
              refine j_idiv hg (v := nI (i / 4)) dM_hashTo_92 (by decide) (pk_div (a := i) (d := 4) (by omega) (by decide) (by decide)) ?_
              refine j_lald hg (v := ((hsF x row rc).1) (i / 4)) 2 (i / 4) rfl rfl (by omega) (by omega) rfl dM_hashTo_93 ?_
              refine j_bipush hg (v := 24) dM_hashTo_94 (by decide) ?_
              refine j_bipush hg (v := 8) dM_hashTo_96 (by decide) ?_
              refine j_iload hg 3 dM_hashTo_98 rfl ?_
              refine j_iconst hg (v := 4) dM_hashTo_100 (by decide) ?_
              refine j_irem hg (v := nI (i % 4)) dM_hashTo_101 (by decide) (pk_rem (a := i) (d := 4) (by omega) (by decide) (by decide)) ?_
              refine j_imul hg (v := nI (8 * (i % 4))) dM_hashTo_102 (pk_mul 8 (i % 4)) ?_
              refine j_isub hg (v := nI (24 - (8 * (i % 4)))) dM_hashTo_103 (pk_sub (a := 24) (b := 8 * (i % 4)) (by omega)) ?_
              refine j_lshr hg (v := lshr (((hsF x row rc).1) (i / 4)) (nI (24 - (8 * (i % 4))))) dM_hashTo_104 rfl ?_
              refine j_l2i hg (v := (lshr (((hsF x row rc).1) (i / 4)) (nI (24 - (8 * (i % 4))))).toInt32) dM_hashTo_105 rfl ?_
              refine j_i2b hg (v := sB ((lshr (((hsF x row rc).1) (i / 4)) (nI (24 - (8 * (i % 4))))).toInt32)) dM_hashTo_106 rfl ?_
              refine j_bast hg (ws' := [ob h 4 [.ref mt, .int (nI tn), .ref mo, .int (nI on), .ref mk, .ref mn, .ref mr, .int (nI rc), .ref mh, .ref mw, .ref mi, .ref mv, .ref mb, .ref ms, .ref mu, .ref mp, .ref mc, .ref mx, .ref mg, .ref ma, .int (nI tx)], aB E mr 1024 row, aL E mh 8 ((hsF x row rc).1), aL E mw 64 ((hsF x row rc).2), aB E rr n (upd (toF to (hsF x row rc).1 k i) (k + i) (sB ((lshr (((hsF x row rc).1) (i / 4)) (nI (24 - (8 * (i % 4))))).toInt32)))]) 4 (k + i) rfl rfl (by omega) (by omega) (sB_nar _) rfl dM_hashTo_107 ?_
              refine j_iinc hg (kq := 3) (v := nI (i + 1)) (lv' := [(4, .int (nI (i + 1))), (0, .ref h), (1, .ref rr), (2, .int (nI k))]) dM_hashTo_108 rfl (nI_add i 1) (by decide) rfl ?_
              refine j_goto hg (tgt := 73) dM_hashTo_111 (by decide) ?_
              refine j_pick [1, 2, 3, 0] (lv' := [(0, .ref h), (1, .ref rr), (2, .int (nI k)), (4, .int (nI (i + 1)))]) rfl ?_
              exact ih (i + 1) (by omega)
          exact loop3 (32) 0 (by omega)
        | succ zk ih =>
          intro i  hi
          refine j_iload hg 4 dM_hashTo_47 rfl ?_
          refine j_iload_n hg 3 dM_hashTo_49 rfl rfl ?_
          refine j_nge_f hg (tgt := 70) (64 * i) ((rc + 72) / 64 * 64) rfl rfl (by omega) (by omega) (by omega) dM_hashTo_50 (by decide) ?_
          refine j_aload_n hg 0 dM_hashTo_53 rfl rfl ?_
          refine j_iload hg 4 dM_hashTo_54 rfl ?_
          refine j_aload_n hg 0 dM_hashTo_56 rfl rfl ?_
          refine j_get hg (C := RX4) (T := TX4) (N := 21) inX4 0 rfl rfl 7 (by decide) m335 rfl dM_hashTo_57 ?_
          refine j_iload_n hg 3 dM_hashTo_60 rfl rfl ?_
          refine j_callV hg (n := 3) (y := yM_hblock) (rm := rm_M_hblock) (Ws := (cT yM_hblock cM_hblock 25 none)) (As := [.int (nI (64 * i)), .int (nI rc), .int (nI ((rc + 72) / 64 * 64))]) (rest := []) (wr := [aB E rr n to]) 0 rfl rfl (c_M_hblock l E h mt mo mk mn mr mh mw mi mv mb ms mu mp mc mx mg ma tn on rc tx row ((hbs (hb8 x.1 8, x.2) row rc ((rc + 72) / 64 * 64) i)) (64 * i) rc ((rc + 72) / 64 * 64) (by omega) (by omega) (by omega)) (gdV m497 m499 ms31 m5 m500) rfl (by decide +kernel) ⟨by decide, by decide⟩ rfl rfl (Nat.le_of_ble_eq_true rfl) ⟨by decide, by decide⟩ [0, 1, 2, 3] [4] rfl rfl (by decide) (by decide) (by decide) dM_hashTo_61 (fun _ _ => ?_)
          show J E 5 g [aB E rr n to, ob h 4 [.ref mt, .int (nI tn), .ref mo, .int (nI on), .ref mk, .ref mn, .ref mr, .int (nI rc), .ref mh, .ref mw, .ref mi, .ref mv, .ref mb, .ref ms, .ref mu, .ref mp, .ref mc, .ref mx, .ref mg, .ref ma, .int (nI tx)], aB E mr 1024 row, aL E mh 8 ((hbF ((hbs (hb8 x.1 8, x.2) row rc ((rc + 72) / 64 * 64) i)) row rc ((rc + 72) / 64 * 64) (64 * i)).1), aL E mw 64 ((hbF ((hbs (hb8 x.1 8, x.2) row rc ((rc + 72) / 64 * 64) i)) row rc ((rc + 72) / 64 * 64) (64 * i)).2)] [(0, .ref h), (1, .ref rr), (2, .int (nI k)), (3, .int (nI ((rc + 72) / 64 * 64))), (4, .int (nI (64 * i)))] 0 0 64 []
          refine j_iinc hg (kq := 4) (v := nI (64 * (i + 1))) (lv' := [(4, .int (nI (64 * (i + 1)))), (0, .ref h), (1, .ref rr), (2, .int (nI k)), (3, .int (nI ((rc + 72) / 64 * 64)))]) dM_hashTo_64 rfl (Eq.trans (nI_add (64 * i) 64) (congrArg nI (by omega))) (by decide) rfl ?_
          refine j_goto hg (tgt := 47) dM_hashTo_67 (by decide) ?_
          refine j_sub [1, 2, 3, 4, 0] (ws' := [ob h 4 [.ref mt, .int (nI tn), .ref mo, .int (nI on), .ref mk, .ref mn, .ref mr, .int (nI rc), .ref mh, .ref mw, .ref mi, .ref mv, .ref mb, .ref ms, .ref mu, .ref mp, .ref mc, .ref mx, .ref mg, .ref ma, .int (nI tx)], aB E mr 1024 row, aL E mh 8 ((hbF ((hbs (hb8 x.1 8, x.2) row rc ((rc + 72) / 64 * 64) i)) row rc ((rc + 72) / 64 * 64) (64 * i)).1), aL E mw 64 ((hbF ((hbs (hb8 x.1 8, x.2) row rc ((rc + 72) / 64 * 64) i)) row rc ((rc + 72) / 64 * 64) (64 * i)).2), aB E rr n to]) rfl (by decide) ?_
          refine j_pick [1, 2, 3, 4, 0] (lv' := [(0, .ref h), (1, .ref rr), (2, .int (nI k)), (3, .int (nI ((rc + 72) / 64 * 64))), (4, .int (nI (64 * (i + 1))))]) rfl ?_
          exact ih (i + 1) (by omega)
      exact loop2 ((rc + 72) / 64) 0 (by omega)
    | succ zk ih =>
      intro i  hi
      refine j_iload_n hg 3 dM_hashTo_2 rfl rfl ?_
      refine j_bipush hg (v := 8) dM_hashTo_3 (by decide) ?_
      refine j_nge_f hg (tgt := 30) i 8 rfl rfl (by omega) (by omega) (by omega) dM_hashTo_5 (by decide) ?_
      refine j_aload_n hg 0 dM_hashTo_8 rfl rfl ?_
      refine j_get hg (C := RX4) (T := TX4) (N := 21) inX4 0 rfl rfl 8 (by decide) m336 rfl dM_hashTo_9 ?_
      refine j_iload_n hg 3 dM_hashTo_12 rfl rfl ?_
      refine j_gets hg 2 rfl m494 dM_hashTo_13 ?_
      refine j_iload_n hg 3 dM_hashTo_16 rfl rfl ?_
      refine j_sti hg (f := tBEGIN) (v := tBEGIN i) 2 i rfl rfl (by omega) (by decide) rfl dM_hashTo_17 ?_
      refine j_i2l hg (v := (tBEGIN i).toInt64) dM_hashTo_18 rfl ?_
      refine j_ldc2 hg (v := 4294967295) m496 dM_hashTo_19 ?_
      refine j_land hg (v := ((tBEGIN i).toInt64) &&& 4294967295) dM_hashTo_22 rfl ?_
      refine j_last hg (ws' := [ob h 4 [.ref mt, .int (nI tn), .ref mo, .int (nI on), .ref mk, .ref mn, .ref mr, .int (nI rc), .ref mh, .ref mw, .ref mi, .ref mv, .ref mb, .ref ms, .ref mu, .ref mp, .ref mc, .ref mx, .ref mg, .ref ma, .int (nI tx)], aB E mr 1024 row, aL E mh 8 (vp_updL (hb8 x.1 i) i (((tBEGIN i).toInt64) &&& 4294967295)), aL E mw 64 x.2, aB E rr n to]) 2 i rfl rfl (by omega) (by omega) rfl dM_hashTo_23 ?_
      refine j_iinc hg (kq := 3) (v := nI (i + 1)) (lv' := [(3, .int (nI (i + 1))), (0, .ref h), (1, .ref rr), (2, .int (nI k))]) dM_hashTo_24 rfl (nI_add i 1) (by decide) rfl ?_
      refine j_goto hg (tgt := 2) dM_hashTo_27 (by decide) ?_
      refine j_pick [1, 2, 3, 0] (lv' := [(0, .ref h), (1, .ref rr), (2, .int (nI k)), (3, .int (nI (i + 1)))]) rfl ?_
      exact ih (i + 1) (by omega)
  exact loop (8) 0 (by omega)
