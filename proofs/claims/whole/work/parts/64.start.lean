/-! What the Statement gives of the start. -/
def prm : List Cond := flatC (Jvm.Cond.and given_1 narrow_1)
theorem prm_a0 : prm[5]? = some (.arrayOf (.static "StreamSeal$Sha256" "FIRST" "[I") .int) := by decide +kernel
theorem prm_l0 : prm[6]? = some (.eq (.length (.static "StreamSeal$Sha256" "FIRST" "[I")) (.int (Int32.ofNat 8))) := by decide +kernel
theorem prm_e0 : ∀ j : Nat, j < 8 → prm[7 + j]? = some (.eq (.elem (.static "StreamSeal$Sha256" "FIRST" "[I") (.int (Int32.ofNat j))) (.int (tFIRST j))) := by decide +kernel
theorem lst_0 : Cond.laysStatic "StreamSeal$Sha256" "FIRST" "[I" ∈ lw_tbl := List.mem_append_right _ (List.mem_append_right _ (List.mem_append_left _ (List.mem_of_getElem? (l := tables_1_2) (i := 35) rfl)))
theorem prm_a1 : prm[16]? = some (.arrayOf (.static "StreamSeal$Sha256" "ADDED" "[I") .int) := by decide +kernel
theorem prm_l1 : prm[17]? = some (.eq (.length (.static "StreamSeal$Sha256" "ADDED" "[I")) (.int (Int32.ofNat 64))) := by decide +kernel
theorem prm_e1 : ∀ j : Nat, j < 64 → prm[18 + j]? = some (.eq (.elem (.static "StreamSeal$Sha256" "ADDED" "[I") (.int (Int32.ofNat j))) (.int (tADDED j))) := by decide +kernel
theorem lst_1 : Cond.laysStatic "StreamSeal$Sha256" "ADDED" "[I" ∈ lw_tbl := List.mem_append_right _ (List.mem_append_right _ (List.mem_append_left _ (List.mem_of_getElem? (l := tables_1_2) (i := 60) rfl)))
theorem prm_a2 : prm[83]? = some (.arrayOf (.static "StreamSealModel" "BEGIN" "[I") .int) := by decide +kernel
theorem prm_l2 : prm[84]? = some (.eq (.length (.static "StreamSealModel" "BEGIN" "[I")) (.int (Int32.ofNat 8))) := by decide +kernel
theorem prm_e2 : ∀ j : Nat, j < 8 → prm[85 + j]? = some (.eq (.elem (.static "StreamSealModel" "BEGIN" "[I") (.int (Int32.ofNat j))) (.int (tBEGIN j))) := by decide +kernel
theorem lst_2 : Cond.laysStatic "StreamSealModel" "BEGIN" "[I" ∈ lw_tbl := List.mem_append_right _ (List.mem_append_right _ (List.mem_append_right _ (List.mem_of_getElem? (l := tables_1_3) (i := 15) rfl)))
theorem prm_a3 : prm[94]? = some (.arrayOf (.static "StreamSealModel" "ROUND" "[I") .int) := by decide +kernel
theorem prm_l3 : prm[95]? = some (.eq (.length (.static "StreamSealModel" "ROUND" "[I")) (.int (Int32.ofNat 64))) := by decide +kernel
theorem prm_e3 : ∀ j : Nat, j < 64 → prm[96 + j]? = some (.eq (.elem (.static "StreamSealModel" "ROUND" "[I") (.int (Int32.ofNat j))) (.int (tROUND j))) := by decide +kernel
theorem lst_3 : Cond.laysStatic "StreamSealModel" "ROUND" "[I" ∈ lw_tbl := List.mem_append_right _ (List.mem_append_right _ (List.mem_append_right _ (List.mem_of_getElem? (l := tables_1_3) (i := 25) rfl)))
theorem nst_0 : Cond.methodLinkNest "StreamSeal$ChaCha20" 42 yS_readLowestFirst "StreamSeal" ∈ lw_tbl := List.mem_append_right _ (List.mem_append_left _ (List.mem_of_getElem? (l := tables_1_1) (i := 166) rfl))
theorem nst_1 : Cond.methodLinkNest "StreamSeal$ChaCha20" 50 yS_turnLeft "StreamSeal" ∈ lw_tbl := List.mem_append_right _ (List.mem_append_left _ (List.mem_of_getElem? (l := tables_1_1) (i := 178) rfl))
theorem nst_2 : Cond.methodLinkNest "StreamSeal$ChaCha20" 32 yS_writeLowestFirst "StreamSeal" ∈ lw_tbl := List.mem_append_right _ (List.mem_append_left _ (List.mem_of_getElem? (l := tables_1_1) (i := 185) rfl))
theorem nst_3 : Cond.methodLinkNest "StreamSeal$Poly1305" 43 yS_readLowestFirst "StreamSeal" ∈ lw_tbl := List.mem_append_right _ (List.mem_append_left _ (List.mem_of_getElem? (l := tables_1_1) (i := 205) rfl))
theorem nst_4 : Cond.methodLinkNest "StreamSeal$Poly1305" 67 yS_writeLowestFirst "StreamSeal" ∈ lw_tbl := List.mem_append_right _ (List.mem_append_left _ (List.mem_of_getElem? (l := tables_1_1) (i := 239) rfl))
theorem nst_5 : Cond.methodLinkNest "StreamSeal$Sha256" 55 yS_readHighestFirst "StreamSeal" ∈ lw_tbl := List.mem_append_right _ (List.mem_append_right _ (List.mem_append_left _ (List.mem_of_getElem? (l := tables_1_2) (i := 49) rfl)))
theorem nst_6 : Cond.methodLinkNest "StreamSeal$Sha256" 59 yS_turnRight "StreamSeal" ∈ lw_tbl := List.mem_append_right _ (List.mem_append_right _ (List.mem_append_left _ (List.mem_of_getElem? (l := tables_1_2) (i := 52) rfl)))
theorem nst_7 : Cond.methodLinkNest "StreamSeal$Sha256" 43 yS_writeHighestFirst "StreamSeal" ∈ lw_tbl := List.mem_append_right _ (List.mem_append_right _ (List.mem_append_left _ (List.mem_of_getElem? (l := tables_1_2) (i := 69) rfl)))
theorem eN_start {args : Array Value} {s : State} (hts : ∀ w ∈ lw_tbl, w.before args s = true) : eN s := by
  show ∀ q ∈ nW, va_Nw (.methodLinkNest q.1 q.2.1 q.2.2.1 q.2.2.2) s
  unfold nW
  exact List.forall_mem_cons.mpr ⟨va_Nw.of rfl (hts _ nst_0), List.forall_mem_cons.mpr ⟨va_Nw.of rfl (hts _ nst_1), List.forall_mem_cons.mpr ⟨va_Nw.of rfl (hts _ nst_2), List.forall_mem_cons.mpr ⟨va_Nw.of rfl (hts _ nst_3), List.forall_mem_cons.mpr ⟨va_Nw.of rfl (hts _ nst_4), List.forall_mem_cons.mpr ⟨va_Nw.of rfl (hts _ nst_5), List.forall_mem_cons.mpr ⟨va_Nw.of rfl (hts _ nst_6), List.forall_mem_cons.mpr ⟨va_Nw.of rfl (hts _ nst_7), fun _ h => absurd h List.not_mem_nil⟩⟩⟩⟩⟩⟩⟩⟩
theorem st_0 {args : Array Value} {s : State} {A : Nat → Prop} (hts : ∀ w ∈ lw_tbl, w.before args s = true) (hgv : (Jvm.Cond.and given_1 narrow_1).before args s = true) (hA : ∀ a : Nat, a < s.heap.size → ¬ A a) : ∃ ad : Nat, va_Z "StreamSeal$Sha256" "FIRST" "[I" (.ref ad) A s s.heap ∧ va_T .int ad 8 (fun j => .int (tFIRST j)) A s s.heap := by
  have hs : ∀ w ∈ prm, w.before args s = true := flat_of_before _ hgv
  obtain ⟨ad, h1, h2⟩ := va_Tof (tm := .static "StreamSeal$Sha256" "FIRST" "[I") (ty := .int) (N := 8) (f := fun j => .int (tFIRST j)) (A := A) (by decide) (hs _ (List.mem_of_getElem? prm_a0)) (va_eqt (hs _ (List.mem_of_getElem? prm_l0))) (fun j hj => va_eqt (hs _ (List.mem_of_getElem? (prm_e0 j hj)))) hA
  exact ⟨ad, va_Zref (hts _ lst_0) (hts _ (gT_tbl m4)) h1 hA, h2⟩
theorem st_1 {args : Array Value} {s : State} {A : Nat → Prop} (hts : ∀ w ∈ lw_tbl, w.before args s = true) (hgv : (Jvm.Cond.and given_1 narrow_1).before args s = true) (hA : ∀ a : Nat, a < s.heap.size → ¬ A a) : ∃ ad : Nat, va_Z "StreamSeal$Sha256" "ADDED" "[I" (.ref ad) A s s.heap ∧ va_T .int ad 64 (fun j => .int (tADDED j)) A s s.heap := by
  have hs : ∀ w ∈ prm, w.before args s = true := flat_of_before _ hgv
  obtain ⟨ad, h1, h2⟩ := va_Tof (tm := .static "StreamSeal$Sha256" "ADDED" "[I") (ty := .int) (N := 64) (f := fun j => .int (tADDED j)) (A := A) (by decide) (hs _ (List.mem_of_getElem? prm_a1)) (va_eqt (hs _ (List.mem_of_getElem? prm_l1))) (fun j hj => va_eqt (hs _ (List.mem_of_getElem? (prm_e1 j hj)))) hA
  exact ⟨ad, va_Zref (hts _ lst_1) (hts _ (gT_tbl m4)) h1 hA, h2⟩
theorem st_2 {args : Array Value} {s : State} {A : Nat → Prop} (hts : ∀ w ∈ lw_tbl, w.before args s = true) (hgv : (Jvm.Cond.and given_1 narrow_1).before args s = true) (hA : ∀ a : Nat, a < s.heap.size → ¬ A a) : ∃ ad : Nat, va_Z "StreamSealModel" "BEGIN" "[I" (.ref ad) A s s.heap ∧ va_T .int ad 8 (fun j => .int (tBEGIN j)) A s s.heap := by
  have hs : ∀ w ∈ prm, w.before args s = true := flat_of_before _ hgv
  obtain ⟨ad, h1, h2⟩ := va_Tof (tm := .static "StreamSealModel" "BEGIN" "[I") (ty := .int) (N := 8) (f := fun j => .int (tBEGIN j)) (A := A) (by decide) (hs _ (List.mem_of_getElem? prm_a2)) (va_eqt (hs _ (List.mem_of_getElem? prm_l2))) (fun j hj => va_eqt (hs _ (List.mem_of_getElem? (prm_e2 j hj)))) hA
  exact ⟨ad, va_Zref (hts _ lst_2) (hts _ (gT_tbl m5)) h1 hA, h2⟩
theorem st_3 {args : Array Value} {s : State} {A : Nat → Prop} (hts : ∀ w ∈ lw_tbl, w.before args s = true) (hgv : (Jvm.Cond.and given_1 narrow_1).before args s = true) (hA : ∀ a : Nat, a < s.heap.size → ¬ A a) : ∃ ad : Nat, va_Z "StreamSealModel" "ROUND" "[I" (.ref ad) A s s.heap ∧ va_T .int ad 64 (fun j => .int (tROUND j)) A s s.heap := by
  have hs : ∀ w ∈ prm, w.before args s = true := flat_of_before _ hgv
  obtain ⟨ad, h1, h2⟩ := va_Tof (tm := .static "StreamSealModel" "ROUND" "[I") (ty := .int) (N := 64) (f := fun j => .int (tROUND j)) (A := A) (by decide) (hs _ (List.mem_of_getElem? prm_a3)) (va_eqt (hs _ (List.mem_of_getElem? prm_l3))) (fun j hj => va_eqt (hs _ (List.mem_of_getElem? (prm_e3 j hj)))) hA
  exact ⟨ad, va_Zref (hts _ lst_3) (hts _ (gT_tbl m5)) h1 hA, h2⟩
set_option maxHeartbeats 1000000 in
set_option maxRecDepth 100000 in
/-- the law, from its entry -/
theorem whole_start {p : Program} {e : Env} {s : State} {m : MethodId} {below : List Frame} {meth : Method} {c : Code} (l : Launch) {b L : Nat} {xs : Nat → Int32} (hL : L ≤ 3072) (C0 : lw_At p s m meth c b L xs) : W p l e room_1 s m #[Value.ref b] below meth c s.heap [] 0 0 (lw_Z below #[Value.ref b] s) (entryFrame m ([Value.ref b] : List Value).toArray 4) := by
  obtain ⟨hx, hb, hr, hml, hown, hts, hX, hbl, hlocks, hgv⟩ := C0
  have hA : ∀ a : Nat, a < s.heap.size → ¬ (fun q : Nat => s.heap.size ≤ q) a := fun a h => Nat.not_le.mpr h
  have hg1 : ∀ w ∈ gT, w.before #[Value.ref b] s = true := fun w h => hts w (gT_tbl h)
  obtain ⟨c0, i0, k0⟩ := u_known (C := RX0) (T := TX0) (N := 2) (n := 2) hg1 inX0 (hg1 _ m18)
  obtain ⟨c1, i1, k1⟩ := u_known (C := RX1) (T := TX1) (N := 6) (n := 6) hg1 inX1 (hg1 _ m33)
  obtain ⟨c2, i2, k2⟩ := u_known (C := RX2) (T := TX2) (N := 6) (n := 6) hg1 inX2 (hg1 _ m59)
  obtain ⟨c3, i3, k3⟩ := u_known (C := RX3) (T := TX3) (N := 12) (n := 12) hg1 inX3 (hg1 _ m10)
  obtain ⟨c4, i4, k4⟩ := u_known (C := RX4) (T := TX4) (N := 21) (n := 21) hg1 inX4 (hg1 _ m323)
  obtain ⟨cB, kB, zB, fB, gB, eB⟩ := Cond.arrayClass_spec (hg1 _ m30)
  obtain ⟨cI, kI, zI, fI, gI, eI⟩ := Cond.arrayClass_spec (hg1 _ m31)
  obtain ⟨cL, kL, zL, fL, gL, eL⟩ := Cond.arrayClass_spec (hg1 _ m57)
  obtain ⟨t0, y0, x0⟩ := st_0 hts hgv hA
  obtain ⟨t1, y1, x1⟩ := st_1 hts hgv hA
  obtain ⟨t2, y2, x2⟩ := st_2 hts hgv hA
  obtain ⟨t3, y3, x3⟩ := st_3 hts hgv hA
  obtain ⟨dC, dI, hKc⟩ : ∃ (dC : Nat → ClassId) (dI : Nat → Nat → Nat), ∀ (k : Nat) (q : vw_C), vwCl[k]? = some q → u_Kn s q.1 q.2.1 q.2.2 (dC k) (dI k) := by
    refine ⟨fun k => match k with | 0 => c0 | 1 => c1 | 2 => c2 | 3 => c3 | _ => c4, fun k => match k with | 0 => i0 | 1 => i1 | 2 => i2 | 3 => i3 | _ => i4, ?_⟩
    intro k q hq
    match k, hq with
    | 0, hq => cases hq; exact k0
    | 1, hq => cases hq; exact k1
    | 2, hq => cases hq; exact k2
    | 3, hq => cases hq; exact k3
    | 4, hq => cases hq; exact k4
    | k + 5, hq => simp [vwCl] at hq
  obtain ⟨ad, hZ⟩ : ∃ ad : Nat → Nat, ∀ (k : Nat) (q : String × String × String × FieldType × Nat × (Nat → Value)), sT[k]? = some q → va_Z q.1 q.2.1 q.2.2.1 (.ref (ad k)) (fun q : Nat => s.heap.size ≤ q) s s.heap ∧ va_T q.2.2.2.1 (ad k) q.2.2.2.2.1 q.2.2.2.2.2 (fun q : Nat => s.heap.size ≤ q) s s.heap := by
    refine ⟨fun k => match k with | 0 => t0 | 1 => t1 | 2 => t2 | _ => t3, ?_⟩
    intro k q hq
    match k, hq with
    | 0, hq => cases hq; exact ⟨y0, x0⟩
    | 1, hq => cases hq; exact ⟨y1, x1⟩
    | 2, hq => cases hq; exact ⟨y2, x2⟩
    | 3, hq => cases hq; exact ⟨y3, x3⟩
    | k + 4, hq => simp [sT] at hq
  have hK : va_K (dC, dI) vwCl [(cB, .byte), (cI, .int), (cL, .long)] s := by
    refine ⟨hKc, fun k q hq => ?_⟩
    match k, hq with
    | 0, hq => cases hq; exact ⟨fun n z => ⟨fun k h => (by cases h), kB, gB, zB, eB⟩, fB⟩
    | 1, hq => cases hq; exact ⟨fun n z => ⟨fun k h => (by cases h), kI, gI, zI, eI⟩, fI⟩
    | 2, hq => cases hq; exact ⟨fun n z => ⟨fun k h => (by cases h), kL, gL, zL, eL⟩, fL⟩
    | k + 3, hq => simp at hq
  rw [lg_entry_eq]
  exact lw_all (E := ((dC, dI), (cB, cI, cL), ad)) (g := (p, l, e, room_1, s, m, #[Value.ref b], below, meth, c, fun q : Nat => s.heap.size ≤ q, lw_Z below #[Value.ref b] s)) (l := l)
    ⟨hx, hb, hml, hown, hg1, hK, fun _ h => h, hZ, rfl, hlocks, rfl, eN_start hts⟩ ⟨hX, hbl, hA b hbl⟩ ⟨rfl, rfl, rfl, hr⟩ hL s.heap [] _ (fun k q h => by simp at h) ⟨fun i j p q h => by simp at h, fun k q h => by simp at h⟩ va_S.rf (lv_entry [.ref b] (n := 4) (Nat.le_of_ble_eq_true rfl))
