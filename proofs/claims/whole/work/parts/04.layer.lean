def cT (y : MethodName) (c : ByteArray) (n : Nat) (ret : Option FieldType) : List Cond := .code y c n ret :: gT
theorem cT_in {y : MethodName} {c : ByteArray} {n : Nat} {ret : Option FieldType} : ∀ w ∈ gT, w ∈ cT y c n ret := fun _ h => List.mem_cons_of_mem _ h
theorem gdT {y : MethodName} {c : ByteArray} {n : Nat} {ret : Option FieldType} (h : Cond.code y c n ret ∈ gT) : GoodIn gT (cT y c n ret) := fun w hw => (List.mem_cons.mp hw).elim (fun e => e ▸ gT_good _ h) (fun e => gT_good _ e)
theorem gd_app {a b : List Cond} (ha : ∀ w ∈ a, w ∈ gT) (hb : GoodIn gT b) : GoodIn gT (a ++ b) := fun w h => (List.mem_append.mp h).elim (fun e => gT_good _ (ha w e)) (hb w)
theorem gdV {own C : String} {idx : Nat} {y : MethodName} {c : ByteArray} {n : Nat} {ret : Option FieldType} (h1 : Cond.methodLink own idx y ∈ gT) (h2 : Cond.instanceMethod y ∈ gT) (h3 : Cond.selects C y y ∈ gT) (h4 : Cond.initialized C ∈ gT) (h : Cond.code y c n ret ∈ gT) : GoodIn gT (wsV own idx C y (cT y c n ret)) :=
  gd_app (List.forall_mem_cons.mpr ⟨h1, List.forall_mem_cons.mpr ⟨h2, List.forall_mem_cons.mpr ⟨h3, List.forall_mem_cons.mpr ⟨h4, fun _ h => absurd h List.not_mem_nil⟩⟩⟩⟩) (gdT h)
theorem gdS {own : String} {idx : Nat} {y : MethodName} {c : ByteArray} {n : Nat} {ret : Option FieldType} (h1 : Cond.methodLink own idx y ∈ gT) (h2 : Cond.static y ∈ gT) (h3 : Cond.initialized own ∈ gT) (h : Cond.code y c n ret ∈ gT) : GoodIn gT (wsS own idx y (cT y c n ret)) :=
  gd_app (List.forall_mem_cons.mpr ⟨h1, List.forall_mem_cons.mpr ⟨h2, List.forall_mem_cons.mpr ⟨h3, fun _ h => absurd h List.not_mem_nil⟩⟩⟩) (gdT h)
theorem gdX {own : String} {idx : Nat} {y : MethodName} {c : ByteArray} {n : Nat} {ret : Option FieldType} (h1 : Cond.methodLink own idx y ∈ gT) (h2 : Cond.static y ∈ gT) (h3 : Cond.initialized y.cls ∈ gT) (h : Cond.code y c n ret ∈ gT) : GoodIn gT (va_wsS own idx y (cT y c n ret)) :=
  gd_app (List.forall_mem_cons.mpr ⟨h1, List.forall_mem_cons.mpr ⟨h2, List.forall_mem_cons.mpr ⟨h3, fun _ h => absurd h List.not_mem_nil⟩⟩⟩) (gdT h)
/-! My layer: a walk's judgement J over an abstract state (cells, locals, stack), and a contract MC with explicit worlds. -/
abbrev Ev : Type := va_G × (ClassId × ClassId × ClassId) × (Nat → Nat)
def eT (E : Ev) : List (ClassId × FieldType) := [(E.2.1.1, .byte), (E.2.1.2.1, .int), (E.2.1.2.2, .long)]
abbrev aB (E : Ev) (a n : Nat) (f : Nat → Int32) : Nat × va_E := (a, .inl (E.2.1.1, n, .inl f))
abbrev aI (E : Ev) (a n : Nat) (f : Nat → Int32) : Nat × va_E := (a, .inl (E.2.1.2.1, n, .inl f))
abbrev aL (E : Ev) (a n : Nat) (f : Nat → Int64) : Nat × va_E := (a, .inl (E.2.1.2.2, n, .inr (.inl f)))
abbrev ob (a ci : Nat) (fs : List Value) : Nat × va_E := (a, .inr (ci, fs))
/-- the static arrays: read, never written -/
def eZ (E : Ev) (A : Nat → Prop) (U : State) (H : Heap) : Prop := ∀ (k : Nat) (q : String × String × String × FieldType × Nat × (Nat → Value)), sT[k]? = some q → va_Z q.1 q.2.1 q.2.2.1 (.ref (E.2.2 k)) A U H ∧ va_T q.2.2.2.1 (E.2.2 k) q.2.2.2.2.1 q.2.2.2.2.2 A U H
theorem eZ.moved {E : Ev} {A : Nat → Prop} {u U : State} {H : Heap} (hvm : u.vm.Alike U.vm) (h : eZ E A u H) : eZ E A U H := fun k q hq => ⟨(h k q hq).1.moved hvm, (h k q hq).2.moved hvm⟩
theorem eZ.kept {E : Ev} {A : Nat → Prop} {U : State} {H H1 : Heap} (h : eZ E A U H) (hq : ∀ a : Nat, a < H.size → ¬ A a → H1[a]? = H[a]?) : eZ E A U H1 := fun k q hk => ⟨(h k q hk).1.kept hq, (h k q hk).2.kept hq⟩
theorem eZ.narrow {E : Ev} {A B : Nat → Prop} {U : State} {H : Heap} (h : eZ E A U H) (hAB : ∀ q, B q → A q) : eZ E B U H := fun k q hk => ⟨(h k q hk).1.narrow hAB, (h k q hk).2.narrow hAB⟩
/-- the links between nest mates -/
def eN (U : State) : Prop := ∀ q ∈ nW, va_Nw (.methodLinkNest q.1 q.2.1 q.2.2.1 q.2.2.2) U
theorem eN.warm {s U : State} (hW : s.WarmedH U.vm) (h : eN s) : eN U := fun q hq => (h q hq).warmM hW
theorem eN.same {s U : State} (hW : s.vm = U.vm) (h : eN s) : eN U := fun q hq => (h q hq).same rfl hW
abbrev Cx : Type := Program × Launch × Env × Room × State × MethodId × Array Value × List Frame × Method × Code × (Nat → Prop) × (State → Prop)
def J (E : Ev) (nL : Nat) (g : Cx) (ws : va_W) (lv : List (Nat × Value)) (cells slots pc : Nat) (st : List Value) : Prop :=
  match g with
  | (p, l, e, R, s, m, args, below, meth, c, A, Q) => ∀ (H : Heap) (locs : List Loc) (ls : Array Slot), va_P E.1 vwCl ws H → va_D A ws → va_S A s.heap H locs → lv_has ls nL lv → W p l e R s m args below meth c H locs cells slots Q (F0 m pc ls st)
def Ok (E : Ev) (nL : Nat) (g : Cx) (l0 : Launch) (cc : ByteArray) (own : String) (Ts : List Cond) (R0 : Room) : Prop :=
  match g with
  | (p, l, _, R, s, m, args, _, meth, c, A, _) => p.tables.exec = Jvm.exec ∧ c.code = cc ∧ c.maxLocals = nL ∧ s.vm.findClass own = some m.cls ∧ (∀ w ∈ Ts, w.before args s = true) ∧ va_K E.1 vwCl (eT E) s ∧ (∀ q : Nat, s.heap.size ≤ q → A q) ∧ eZ E A s s.heap ∧ R = R0 ∧ meth.locks = false ∧ l = l0 ∧ eN s
def QcM (E : Ev) (w0 : va_W) (sz : Nat) (S : Type) (post : S → Prop) (r : S → Option Value) (w1 : S → va_W) : Array Value → State → Outcome → State → Prop := fun _ st oc t =>
  (∃ u : S, oc = .returned (r u) ∧ post u ∧ va_P E.1 vwCl (w1 u) t.heap ∧ va_K E.1 vwCl (eT E) t ∧ va_D (va_A w0 sz) (w1 u)) ∧ va_F (va_A w0 sz) st t
def PcM (E : Ev) (as : List Value) (w0 : va_W) (sz : Nat) : Array Value → State → Prop := va_Pc as (fun U => U.heap.size = sz ∧ va_P E.1 vwCl w0 U.heap ∧ va_K E.1 vwCl (eT E) U ∧ va_D (fun _ => True) w0 ∧ eZ E (va_A w0 sz) U U.heap ∧ eN U)
/-- the contract: from the cells w0 and the arguments, it returns r u, the cells are w1 u, for a u with post u -/
def MC (E : Ev) (l : Launch) (y : MethodName) (Ts : List Cond) (rm : Room) (as : List Value) (w0 : va_W) (S : Type) (post : S → Prop) (r : S → Option Value) (w1 : S → va_W) : Prop :=
  ∀ sz : Nat, Met l y Ts rm (PcM E as w0 sz) (QcM E w0 sz S post r w1) rm.cells rm.slots (va_A w0 sz)
def Rt (E : Ev) (g : Cx) (w0 : va_W) (S : Type) (post : S → Prop) (r : S → Option Value) (w1 : S → va_W) (rm : Room) (ret : Option FieldType) (nm : String) : Prop :=
  match g with
  | (_, _, _, _, s, _, args, below, meth, _, A, Q) => A = va_A w0 s.heap.size ∧ Q = MQ below (QcM E w0 s.heap.size S post r w1) args s rm.cells rm.slots (va_A w0 s.heap.size) ∧ meth.sig.returnType = ret ∧ meth.name = nm
theorem pcM_blind {E : Ev} {as : List Value} {w0 : va_W} {sz : Nat} : FrameBlind (PcM E as w0 sz) := by
  intro a U g mk q
  obtain ⟨q0, q1, qP, qK, qD, qZ, qN⟩ := q
  exact ⟨q0, q1, qP, va_K.moved (u := U) (U := U.calling g mk a) (Vm.Alike.refl U.vm) qK, qD, eZ.moved (u := U) (U := U.calling g mk a) (Vm.Alike.refl U.vm) qZ, eN.same (s := U) (U := U.calling g mk a) rfl qN⟩
theorem MC.of {E : Ev} {l : Launch} {y : MethodName} {Ts Ts' : List Cond} {rm : Room} {as : List Value} {w0 : va_W} {S : Type} {post : S → Prop} {r : S → Option Value} {w1 : S → va_W} {cc : ByteArray} {nL : Nat} {ret : Option FieldType}
    (hy : plainName y.cls = true) (hw : Ts = Cond.code y cc nL ret :: Ts') (hgT : ∀ w ∈ gT, w ∈ Ts) (has : (lg_sl as).length ≤ nL)
    (body : ∀ g : Cx, Ok E nL g l cc y.cls gT rm → Rt E g w0 S post r w1 rm ret y.name → J E nL g w0 (lv_args 0 as) 0 0 0 []) : MC E l y Ts rm as w0 S post r w1 := by
  intro sz
  refine Met.ofW (cc := cc) (maxL := nL) (ret := ret) hy hw ?_
  intro p e s m args below meth c s₁ B hml hv
  obtain ⟨rfl, hsz, hP, hK, hD0, hZ, hN⟩ := hv
  subst hsz
  rw [lg_entry_eq]
  exact body (p, l, e, (headSpec Ts rm).room, s, m, as.toArray, below, meth, c, va_A w0 s.heap.size, MQ below (QcM E w0 s.heap.size S post r w1) as.toArray s rm.cells rm.slots (va_A w0 s.heap.size))
    ⟨B.exec, B.bytes, hml, findClass_of_methodNamed B.named, fun w hw => atoms_spec (ws := Ts) B.pre w (hgT w hw), hK, fun q h => Or.inr h, hZ, rfl, B.notSynchronized, rfl, hN⟩
    ⟨rfl, rfl, B.returns, (name_of_methodNamed B.named B.method).1⟩ s.heap [] _ hP (hD0.self (sz := s.heap.size)) va_S.rf (lv_entry as (n := nL) has)
theorem fm_of_map {ws w : va_W} : ∀ {is : List Nat}, is.map (fun i => ws[i]?) = w.map some → is.filterMap (fun i => ws[i]?) = w := by
  intro is
  induction is generalizing w with
  | nil =>
    intro h
    cases w with
    | nil => rfl
    | cons a w => simp at h
  | cons i is ih =>
    intro h
    cases w with
    | nil => simp at h
    | cons a w =>
      simp only [List.map_cons, List.cons.injEq] at h
      rw [List.filterMap_cons, h.1]
      simp only
      rw [ih h.2]
section JR
variable {E : Ev} {nL : Nat} {g : Cx} {l0 : Launch} {cc : ByteArray} {own : String} {Ts : List Cond} {R0 : Room} {ws : va_W} {lv : List (Nat × Value)} {cells slots pc : Nat} {st : List Value}
theorem j_topi {x y : Int32} (h : x = y) (k : J E nL g ws lv cells slots pc (.int y :: st)) : J E nL g ws lv cells slots pc (.int x :: st) := h ▸ k
theorem j_topl {x y : Int64} (h : x = y) (k : J E nL g ws lv cells slots pc (.long y :: st)) : J E nL g ws lv cells slots pc (.long x :: st) := h ▸ k
theorem j_ws {ws' : va_W} (h : ws = ws') (k : J E nL g ws' lv cells slots pc st) : J E nL g ws lv cells slots pc st := h ▸ k
theorem j_pick (ks : List Nat) {lv' : List (Nat × Value)} (h : lv_pick lv ks = lv') (k : J E nL g ws lv' cells slots pc st) : J E nL g ws lv cells slots pc st := by
  obtain ⟨p, l, e, R, s, m, args, below, meth, c, A, Q⟩ := g
  exact fun H locs ls hP hD hS hl => k H locs ls hP hD hS (lv_sub hl ks h)
/-- the cells in another order, or fewer -/
theorem j_sub (is : List Nat) {ws' : va_W} (h : is.map (fun i => ws[i]?) = ws'.map some) (hn : va_nd is = true) (k : J E nL g ws' lv cells slots pc st) : J E nL g ws lv cells slots pc st := by
  obtain ⟨p, l, e, R, s, m, args, below, meth, c, A, Q⟩ := g
  exact fun H locs ls hP hD hS hl => k H locs ls (hP.sub is (fm_of_map h)) (hD.sub is hn h) hS hl
theorem j_widen {cells' slots' : Nat} (h1 : cells ≤ cells') (h2 : slots ≤ slots') (k : J E nL g ws lv cells' slots' pc st) : J E nL g ws lv cells slots pc st := by
  obtain ⟨p, l, e, R, s, m, args, below, meth, c, A, Q⟩ := g
  exact fun H locs ls hP hD hS hl => W.widen h1 h2 (k H locs ls hP hD hS hl)
theorem j_iconst (hg : Ok E nL g l0 cc own Ts R0) {n : Int} {v : Int32} (hd : decode cc pc = .ok (.iconst n, 1)) (hv : Int32.ofInt n = v) (k : J E nL g ws lv cells slots (pc + 1) (.int v :: st)) : J E nL g ws lv cells slots pc (st) := by
  obtain ⟨p, l, e, R, s, m, args, below, meth, c, A, Q⟩ := g
  exact fun H locs ls hP hD hS hl => lv_iconst hg.1 hg.2.1 hd hv (k H locs ls hP hD hS hl)
theorem j_bipush (hg : Ok E nL g l0 cc own Ts R0) {n : Int} {v : Int32} (hd : decode cc pc = .ok (.bipush n, 2)) (hv : (Int8.ofInt n).toInt32 = v) (k : J E nL g ws lv cells slots (pc + 2) (.int v :: st)) : J E nL g ws lv cells slots pc (st) := by
  obtain ⟨p, l, e, R, s, m, args, below, meth, c, A, Q⟩ := g
  exact fun H locs ls hP hD hS hl => lv_bipush hg.1 hg.2.1 hd hv (k H locs ls hP hD hS hl)
theorem j_sipush (hg : Ok E nL g l0 cc own Ts R0) {n : Int} {v : Int32} (hd : decode cc pc = .ok (.sipush n, 3)) (hv : (Int16.ofInt n).toInt32 = v) (k : J E nL g ws lv cells slots (pc + 3) (.int v :: st)) : J E nL g ws lv cells slots pc (st) := by
  obtain ⟨p, l, e, R, s, m, args, below, meth, c, A, Q⟩ := g
  exact fun H locs ls hP hD hS hl => lv_sipush hg.1 hg.2.1 hd hv (k H locs ls hP hD hS hl)
theorem j_lconst (hg : Ok E nL g l0 cc own Ts R0) {n : Fin 2} {v : Int64} (hd : decode cc pc = .ok (.lconst n, 1)) (hv : Int64.ofNat (n : Nat) = v) (k : J E nL g ws lv cells slots (pc + 1) (.long v :: st)) : J E nL g ws lv cells slots pc (st) := by
  obtain ⟨p, l, e, R, s, m, args, below, meth, c, A, Q⟩ := g
  exact fun H locs ls hP hD hS hl => lv_lconst hg.1 hg.2.1 hd hv (k H locs ls hP hD hS hl)
theorem j_iload_n (hg : Ok E nL g l0 cc own Ts R0) {k : Fin 4} {i : Nat} {x : Int32} (q : Nat) (hd : decode cc pc = .ok (.iload_n k, 1)) (hi : (k : Nat) = i) (hq : lv[q]? = some (i, .int x)) (k : J E nL g ws lv cells slots (pc + 1) (.int x :: st)) : J E nL g ws lv cells slots pc (st) := by
  obtain ⟨p, l, e, R, s, m, args, below, meth, c, A, Q⟩ := g
  exact fun H locs ls hP hD hS hl => lv_iload_n hg.1 hg.2.1 hd hi (lv_at hl q hq) (k H locs ls hP hD hS hl)
theorem j_iload (hg : Ok E nL g l0 cc own Ts R0) {i : Nat} {x : Int32} (q : Nat) (hd : decode cc pc = .ok (.iload i, 2)) (hq : lv[q]? = some (i, .int x)) (k : J E nL g ws lv cells slots (pc + 2) (.int x :: st)) : J E nL g ws lv cells slots pc (st) := by
  obtain ⟨p, l, e, R, s, m, args, below, meth, c, A, Q⟩ := g
  exact fun H locs ls hP hD hS hl => lv_iload hg.1 hg.2.1 hd (lv_at hl q hq) (k H locs ls hP hD hS hl)
theorem j_lload_n (hg : Ok E nL g l0 cc own Ts R0) {k : Fin 4} {i : Nat} {x : Int64} (q : Nat) (hd : decode cc pc = .ok (.lload_n k, 1)) (hi : (k : Nat) = i) (hq : lv[q]? = some (i, .long x)) (k : J E nL g ws lv cells slots (pc + 1) (.long x :: st)) : J E nL g ws lv cells slots pc (st) := by
  obtain ⟨p, l, e, R, s, m, args, below, meth, c, A, Q⟩ := g
  exact fun H locs ls hP hD hS hl => lv_lload_n hg.1 hg.2.1 hd hi (lv_at hl q hq) (k H locs ls hP hD hS hl)
theorem j_lload (hg : Ok E nL g l0 cc own Ts R0) {i : Nat} {x : Int64} (q : Nat) (hd : decode cc pc = .ok (.lload i, 2)) (hq : lv[q]? = some (i, .long x)) (k : J E nL g ws lv cells slots (pc + 2) (.long x :: st)) : J E nL g ws lv cells slots pc (st) := by
  obtain ⟨p, l, e, R, s, m, args, below, meth, c, A, Q⟩ := g
  exact fun H locs ls hP hD hS hl => lv_lload hg.1 hg.2.1 hd (lv_at hl q hq) (k H locs ls hP hD hS hl)
theorem j_aload_n (hg : Ok E nL g l0 cc own Ts R0) {k : Fin 4} {i : Nat} {x : Nat} (q : Nat) (hd : decode cc pc = .ok (.aload_n k, 1)) (hi : (k : Nat) = i) (hq : lv[q]? = some (i, .ref x)) (k : J E nL g ws lv cells slots (pc + 1) (.ref x :: st)) : J E nL g ws lv cells slots pc (st) := by
  obtain ⟨p, l, e, R, s, m, args, below, meth, c, A, Q⟩ := g
  exact fun H locs ls hP hD hS hl => lv_aload_n hg.1 hg.2.1 hd hi (lv_at hl q hq) (k H locs ls hP hD hS hl)
theorem j_aload (hg : Ok E nL g l0 cc own Ts R0) {i : Nat} {x : Nat} (q : Nat) (hd : decode cc pc = .ok (.aload i, 2)) (hq : lv[q]? = some (i, .ref x)) (k : J E nL g ws lv cells slots (pc + 2) (.ref x :: st)) : J E nL g ws lv cells slots pc (st) := by
  obtain ⟨p, l, e, R, s, m, args, below, meth, c, A, Q⟩ := g
  exact fun H locs ls hP hD hS hl => lv_aload hg.1 hg.2.1 hd (lv_at hl q hq) (k H locs ls hP hD hS hl)
theorem j_istore_n (hg : Ok E nL g l0 cc own Ts R0) {k : Fin 4} {i : Nat} {x : Int32} {lv' : List (Nat × Value)} (hd : decode cc pc = .ok (.istore_n k, 1)) (hi : (k : Nat) = i) (hn : i < nL) (hq : (i, Value.int x) :: lv.filter (fun q => !(q.1 == i) && !(q.1 + 1 == i && q.2.category == 2)) = lv') (k : J E nL g ws lv' cells slots (pc + 1) (st)) : J E nL g ws lv cells slots pc (.int x :: st) := by
  obtain ⟨p, l, e, R, s, m, args, below, meth, c, A, Q⟩ := g
  exact fun H locs ls hP hD hS hl => lv_istore_n hg.1 hg.2.1 hd hi hl hn hq (fun ls' hl' => k H locs ls' hP hD hS hl')
theorem j_istore (hg : Ok E nL g l0 cc own Ts R0) {i : Nat} {x : Int32} {lv' : List (Nat × Value)} (hd : decode cc pc = .ok (.istore i, 2)) (hn : i < nL) (hq : (i, Value.int x) :: lv.filter (fun q => !(q.1 == i) && !(q.1 + 1 == i && q.2.category == 2)) = lv') (k : J E nL g ws lv' cells slots (pc + 2) (st)) : J E nL g ws lv cells slots pc (.int x :: st) := by
  obtain ⟨p, l, e, R, s, m, args, below, meth, c, A, Q⟩ := g
  exact fun H locs ls hP hD hS hl => lv_istore hg.1 hg.2.1 hd hl hn hq (fun ls' hl' => k H locs ls' hP hD hS hl')
theorem j_lstore_n (hg : Ok E nL g l0 cc own Ts R0) {k : Fin 4} {i : Nat} {x : Int64} {lv' : List (Nat × Value)} (hd : decode cc pc = .ok (.lstore_n k, 1)) (hi : (k : Nat) = i) (hn : i + 1 < nL) (hq : (i, Value.long x) :: lv.filter (fun q => !(q.1 == i) && (!(q.1 == i + 1) && !(q.1 + 1 == i && q.2.category == 2))) = lv') (k : J E nL g ws lv' cells slots (pc + 1) (st)) : J E nL g ws lv cells slots pc (.long x :: st) := by
  obtain ⟨p, l, e, R, s, m, args, below, meth, c, A, Q⟩ := g
  exact fun H locs ls hP hD hS hl => lv_lstore_n hg.1 hg.2.1 hd hi hl hn hq (fun ls' hl' => k H locs ls' hP hD hS hl')
theorem j_lstore (hg : Ok E nL g l0 cc own Ts R0) {i : Nat} {x : Int64} {lv' : List (Nat × Value)} (hd : decode cc pc = .ok (.lstore i, 2)) (hn : i + 1 < nL) (hq : (i, Value.long x) :: lv.filter (fun q => !(q.1 == i) && (!(q.1 == i + 1) && !(q.1 + 1 == i && q.2.category == 2))) = lv') (k : J E nL g ws lv' cells slots (pc + 2) (st)) : J E nL g ws lv cells slots pc (.long x :: st) := by
  obtain ⟨p, l, e, R, s, m, args, below, meth, c, A, Q⟩ := g
  exact fun H locs ls hP hD hS hl => lv_lstore hg.1 hg.2.1 hd hl hn hq (fun ls' hl' => k H locs ls' hP hD hS hl')
theorem j_astore_n (hg : Ok E nL g l0 cc own Ts R0) {k : Fin 4} {i : Nat} {x : Nat} {lv' : List (Nat × Value)} (hd : decode cc pc = .ok (.astore_n k, 1)) (hi : (k : Nat) = i) (hn : i < nL) (hq : (i, Value.ref x) :: lv.filter (fun q => !(q.1 == i) && !(q.1 + 1 == i && q.2.category == 2)) = lv') (k : J E nL g ws lv' cells slots (pc + 1) (st)) : J E nL g ws lv cells slots pc (.ref x :: st) := by
  obtain ⟨p, l, e, R, s, m, args, below, meth, c, A, Q⟩ := g
  exact fun H locs ls hP hD hS hl => lv_astore_n hg.1 hg.2.1 hd hi hl hn hq (fun ls' hl' => k H locs ls' hP hD hS hl')
theorem j_astore (hg : Ok E nL g l0 cc own Ts R0) {i : Nat} {x : Nat} {lv' : List (Nat × Value)} (hd : decode cc pc = .ok (.astore i, 2)) (hn : i < nL) (hq : (i, Value.ref x) :: lv.filter (fun q => !(q.1 == i) && !(q.1 + 1 == i && q.2.category == 2)) = lv') (k : J E nL g ws lv' cells slots (pc + 2) (st)) : J E nL g ws lv cells slots pc (.ref x :: st) := by
  obtain ⟨p, l, e, R, s, m, args, below, meth, c, A, Q⟩ := g
  exact fun H locs ls hP hD hS hl => lv_astore hg.1 hg.2.1 hd hl hn hq (fun ls' hl' => k H locs ls' hP hD hS hl')
theorem j_iinc (hg : Ok E nL g l0 cc own Ts R0) {i kq : Nat} {n : Int} {x v : Int32} {lv' : List (Nat × Value)} (hd : decode cc pc = .ok (.iinc i n, 3)) (hk : lv[kq]? = some (i, .int x)) (hv : x + Int32.ofInt n = v) (hn : i < nL) (hq : (i, Value.int v) :: lv.filter (fun q => !(q.1 == i) && !(q.1 + 1 == i && q.2.category == 2)) = lv') (k : J E nL g ws lv' cells slots (pc + 3) (st)) : J E nL g ws lv cells slots pc (st) := by
  obtain ⟨p, l, e, R, s, m, args, below, meth, c, A, Q⟩ := g
  exact fun H locs ls hP hD hS hl => lv_iinc hg.1 hg.2.1 hd hl hk hv hn hq (fun ls' hl' => k H locs ls' hP hD hS hl')
theorem j_iadd (hg : Ok E nL g l0 cc own Ts R0) {x y v : Int32} (hd : decode cc pc = .ok (.iadd, 1)) (hv : x + y = v) (k : J E nL g ws lv cells slots (pc + 1) (.int v :: st)) : J E nL g ws lv cells slots pc (.int y :: .int x :: st) := by
  obtain ⟨p, l, e, R, s, m, args, below, meth, c, A, Q⟩ := g
  subst hv
  exact fun H locs ls hP hD hS hl => lv_iadd hg.1 hg.2.1 hd (k H locs ls hP hD hS hl)
theorem j_isub (hg : Ok E nL g l0 cc own Ts R0) {x y v : Int32} (hd : decode cc pc = .ok (.isub, 1)) (hv : x - y = v) (k : J E nL g ws lv cells slots (pc + 1) (.int v :: st)) : J E nL g ws lv cells slots pc (.int y :: .int x :: st) := by
  obtain ⟨p, l, e, R, s, m, args, below, meth, c, A, Q⟩ := g
  subst hv
  exact fun H locs ls hP hD hS hl => lv_isub hg.1 hg.2.1 hd (k H locs ls hP hD hS hl)
theorem j_imul (hg : Ok E nL g l0 cc own Ts R0) {x y v : Int32} (hd : decode cc pc = .ok (.imul, 1)) (hv : x * y = v) (k : J E nL g ws lv cells slots (pc + 1) (.int v :: st)) : J E nL g ws lv cells slots pc (.int y :: .int x :: st) := by
  obtain ⟨p, l, e, R, s, m, args, below, meth, c, A, Q⟩ := g
  subst hv
  exact fun H locs ls hP hD hS hl => lv_imul hg.1 hg.2.1 hd (k H locs ls hP hD hS hl)
theorem j_iand (hg : Ok E nL g l0 cc own Ts R0) {x y v : Int32} (hd : decode cc pc = .ok (.iand, 1)) (hv : x &&& y = v) (k : J E nL g ws lv cells slots (pc + 1) (.int v :: st)) : J E nL g ws lv cells slots pc (.int y :: .int x :: st) := by
  obtain ⟨p, l, e, R, s, m, args, below, meth, c, A, Q⟩ := g
  subst hv
  exact fun H locs ls hP hD hS hl => lv_iand hg.1 hg.2.1 hd (k H locs ls hP hD hS hl)
theorem j_ior (hg : Ok E nL g l0 cc own Ts R0) {x y v : Int32} (hd : decode cc pc = .ok (.ior, 1)) (hv : x ||| y = v) (k : J E nL g ws lv cells slots (pc + 1) (.int v :: st)) : J E nL g ws lv cells slots pc (.int y :: .int x :: st) := by
  obtain ⟨p, l, e, R, s, m, args, below, meth, c, A, Q⟩ := g
  subst hv
  exact fun H locs ls hP hD hS hl => lv_ior hg.1 hg.2.1 hd (k H locs ls hP hD hS hl)
theorem j_ixor (hg : Ok E nL g l0 cc own Ts R0) {x y v : Int32} (hd : decode cc pc = .ok (.ixor, 1)) (hv : x ^^^ y = v) (k : J E nL g ws lv cells slots (pc + 1) (.int v :: st)) : J E nL g ws lv cells slots pc (.int y :: .int x :: st) := by
  obtain ⟨p, l, e, R, s, m, args, below, meth, c, A, Q⟩ := g
  subst hv
  exact fun H locs ls hP hD hS hl => lv_ixor hg.1 hg.2.1 hd (k H locs ls hP hD hS hl)
theorem j_ishl (hg : Ok E nL g l0 cc own Ts R0) {x y v : Int32} (hd : decode cc pc = .ok (.ishl, 1)) (hv : x <<< (y &&& 31) = v) (k : J E nL g ws lv cells slots (pc + 1) (.int v :: st)) : J E nL g ws lv cells slots pc (.int y :: .int x :: st) := by
  obtain ⟨p, l, e, R, s, m, args, below, meth, c, A, Q⟩ := g
  subst hv
  exact fun H locs ls hP hD hS hl => lv_ishl hg.1 hg.2.1 hd (k H locs ls hP hD hS hl)
theorem j_ishr (hg : Ok E nL g l0 cc own Ts R0) {x y v : Int32} (hd : decode cc pc = .ok (.ishr, 1)) (hv : x >>> (y &&& 31) = v) (k : J E nL g ws lv cells slots (pc + 1) (.int v :: st)) : J E nL g ws lv cells slots pc (.int y :: .int x :: st) := by
  obtain ⟨p, l, e, R, s, m, args, below, meth, c, A, Q⟩ := g
  subst hv
  exact fun H locs ls hP hD hS hl => lv_ishr hg.1 hg.2.1 hd (k H locs ls hP hD hS hl)
theorem j_irem (hg : Ok E nL g l0 cc own Ts R0) {x y v : Int32} (hd : decode cc pc = .ok (.irem, 1)) (hne : ¬ y = 0) (hv : x - x / y * y = v) (k : J E nL g ws lv cells slots (pc + 1) (.int v :: st)) : J E nL g ws lv cells slots pc (.int y :: .int x :: st) := by
  obtain ⟨p, l, e, R, s, m, args, below, meth, c, A, Q⟩ := g
  subst hv
  exact fun H locs ls hP hD hS hl => lv_irem hg.1 hg.2.1 hd hne (k H locs ls hP hD hS hl)
theorem j_idiv (hg : Ok E nL g l0 cc own Ts R0) {x y v : Int32} (hd : decode cc pc = .ok (.idiv, 1)) (hne : ¬ y = 0) (hv : x / y = v) (k : J E nL g ws lv cells slots (pc + 1) (.int v :: st)) : J E nL g ws lv cells slots pc (.int y :: .int x :: st) := by
  obtain ⟨p, l, e, R, s, m, args, below, meth, c, A, Q⟩ := g
  subst hv
  exact fun H locs ls hP hD hS hl => lv_idiv hg.1 hg.2.1 hd hne (k H locs ls hP hD hS hl)
theorem j_ladd (hg : Ok E nL g l0 cc own Ts R0) {x y v : Int64} (hd : decode cc pc = .ok (.ladd, 1)) (hv : x + y = v) (k : J E nL g ws lv cells slots (pc + 1) (.long v :: st)) : J E nL g ws lv cells slots pc (.long y :: .long x :: st) := by
  obtain ⟨p, l, e, R, s, m, args, below, meth, c, A, Q⟩ := g
  subst hv
  exact fun H locs ls hP hD hS hl => lv_ladd hg.1 hg.2.1 hd (k H locs ls hP hD hS hl)
theorem j_lsub (hg : Ok E nL g l0 cc own Ts R0) {x y v : Int64} (hd : decode cc pc = .ok (.lsub, 1)) (hv : x - y = v) (k : J E nL g ws lv cells slots (pc + 1) (.long v :: st)) : J E nL g ws lv cells slots pc (.long y :: .long x :: st) := by
  obtain ⟨p, l, e, R, s, m, args, below, meth, c, A, Q⟩ := g
  subst hv
  exact fun H locs ls hP hD hS hl => lv_lsub hg.1 hg.2.1 hd (k H locs ls hP hD hS hl)
theorem j_lmul (hg : Ok E nL g l0 cc own Ts R0) {x y v : Int64} (hd : decode cc pc = .ok (.lmul, 1)) (hv : x * y = v) (k : J E nL g ws lv cells slots (pc + 1) (.long v :: st)) : J E nL g ws lv cells slots pc (.long y :: .long x :: st) := by
  obtain ⟨p, l, e, R, s, m, args, below, meth, c, A, Q⟩ := g
  subst hv
  exact fun H locs ls hP hD hS hl => lv_lmul hg.1 hg.2.1 hd (k H locs ls hP hD hS hl)
theorem j_land (hg : Ok E nL g l0 cc own Ts R0) {x y v : Int64} (hd : decode cc pc = .ok (.land, 1)) (hv : x &&& y = v) (k : J E nL g ws lv cells slots (pc + 1) (.long v :: st)) : J E nL g ws lv cells slots pc (.long y :: .long x :: st) := by
  obtain ⟨p, l, e, R, s, m, args, below, meth, c, A, Q⟩ := g
  subst hv
  exact fun H locs ls hP hD hS hl => lv_land hg.1 hg.2.1 hd (k H locs ls hP hD hS hl)
theorem j_lor (hg : Ok E nL g l0 cc own Ts R0) {x y v : Int64} (hd : decode cc pc = .ok (.lor, 1)) (hv : x ||| y = v) (k : J E nL g ws lv cells slots (pc + 1) (.long v :: st)) : J E nL g ws lv cells slots pc (.long y :: .long x :: st) := by
  obtain ⟨p, l, e, R, s, m, args, below, meth, c, A, Q⟩ := g
  subst hv
  exact fun H locs ls hP hD hS hl => lv_lor hg.1 hg.2.1 hd (k H locs ls hP hD hS hl)
theorem j_lxor (hg : Ok E nL g l0 cc own Ts R0) {x y v : Int64} (hd : decode cc pc = .ok (.lxor, 1)) (hv : x ^^^ y = v) (k : J E nL g ws lv cells slots (pc + 1) (.long v :: st)) : J E nL g ws lv cells slots pc (.long y :: .long x :: st) := by
  obtain ⟨p, l, e, R, s, m, args, below, meth, c, A, Q⟩ := g
  subst hv
  exact fun H locs ls hP hD hS hl => lv_lxor hg.1 hg.2.1 hd (k H locs ls hP hD hS hl)
theorem j_lrem (hg : Ok E nL g l0 cc own Ts R0) {x y v : Int64} (hd : decode cc pc = .ok (.lrem, 1)) (hne : ¬ y = 0) (hv : x - x / y * y = v) (k : J E nL g ws lv cells slots (pc + 1) (.long v :: st)) : J E nL g ws lv cells slots pc (.long y :: .long x :: st) := by
  obtain ⟨p, l, e, R, s, m, args, below, meth, c, A, Q⟩ := g
  subst hv
  exact fun H locs ls hP hD hS hl => lv_lrem hg.1 hg.2.1 hd hne (k H locs ls hP hD hS hl)
theorem j_ldiv (hg : Ok E nL g l0 cc own Ts R0) {x y v : Int64} (hd : decode cc pc = .ok (.ldiv, 1)) (hne : ¬ y = 0) (hv : x / y = v) (k : J E nL g ws lv cells slots (pc + 1) (.long v :: st)) : J E nL g ws lv cells slots pc (.long y :: .long x :: st) := by
  obtain ⟨p, l, e, R, s, m, args, below, meth, c, A, Q⟩ := g
  subst hv
  exact fun H locs ls hP hD hS hl => lv_ldiv hg.1 hg.2.1 hd hne (k H locs ls hP hD hS hl)
theorem j_ineg (hg : Ok E nL g l0 cc own Ts R0) {x v : Int32} (hd : decode cc pc = .ok (.ineg, 1)) (hv : -x = v) (k : J E nL g ws lv cells slots (pc + 1) (.int v :: st)) : J E nL g ws lv cells slots pc (.int x :: st) := by
  obtain ⟨p, l, e, R, s, m, args, below, meth, c, A, Q⟩ := g
  subst hv
  exact fun H locs ls hP hD hS hl => lv_ineg hg.1 hg.2.1 hd (k H locs ls hP hD hS hl)
theorem j_lcmp (hg : Ok E nL g l0 cc own Ts R0) {x y : Int64} {v : Int32} (hd : decode cc pc = .ok (.lcmp, 1)) (hv : lg_cmp x y = v) (k : J E nL g ws lv cells slots (pc + 1) (.int v :: st)) : J E nL g ws lv cells slots pc (.long y :: .long x :: st) := by
  obtain ⟨p, l, e, R, s, m, args, below, meth, c, A, Q⟩ := g
  subst hv
  exact fun H locs ls hP hD hS hl => W.lcmp hg.1 hg.2.1 hd (k H locs ls hP hD hS hl)
theorem j_i2l (hg : Ok E nL g l0 cc own Ts R0) {x : Int32} {v : Int64} (hd : decode cc pc = .ok (.i2l, 1)) (hv : x.toInt64 = v) (k : J E nL g ws lv cells slots (pc + 1) (.long v :: st)) : J E nL g ws lv cells slots pc (.int x :: st) := by
  obtain ⟨p, l, e, R, s, m, args, below, meth, c, A, Q⟩ := g
  exact fun H locs ls hP hD hS hl => lv_i2l hg.1 hg.2.1 hd hv (k H locs ls hP hD hS hl)
theorem j_l2i (hg : Ok E nL g l0 cc own Ts R0) {x : Int64} {v : Int32} (hd : decode cc pc = .ok (.l2i, 1)) (hv : x.toInt32 = v) (k : J E nL g ws lv cells slots (pc + 1) (.int v :: st)) : J E nL g ws lv cells slots pc (.long x :: st) := by
  obtain ⟨p, l, e, R, s, m, args, below, meth, c, A, Q⟩ := g
  exact fun H locs ls hP hD hS hl => lv_l2i hg.1 hg.2.1 hd hv (k H locs ls hP hD hS hl)
theorem j_i2b (hg : Ok E nL g l0 cc own Ts R0) {x : Int32} {v : Int32} (hd : decode cc pc = .ok (.i2b, 1)) (hv : x.toInt8.toInt32 = v) (k : J E nL g ws lv cells slots (pc + 1) (.int v :: st)) : J E nL g ws lv cells slots pc (.int x :: st) := by
  obtain ⟨p, l, e, R, s, m, args, below, meth, c, A, Q⟩ := g
  exact fun H locs ls hP hD hS hl => lv_i2b hg.1 hg.2.1 hd hv (k H locs ls hP hD hS hl)
theorem j_i2s (hg : Ok E nL g l0 cc own Ts R0) {x : Int32} {v : Int32} (hd : decode cc pc = .ok (.i2s, 1)) (hv : x.toInt16.toInt32 = v) (k : J E nL g ws lv cells slots (pc + 1) (.int v :: st)) : J E nL g ws lv cells slots pc (.int x :: st) := by
  obtain ⟨p, l, e, R, s, m, args, below, meth, c, A, Q⟩ := g
  exact fun H locs ls hP hD hS hl => lv_i2s hg.1 hg.2.1 hd hv (k H locs ls hP hD hS hl)
theorem j_i2c (hg : Ok E nL g l0 cc own Ts R0) {x : Int32} {v : Int32} (hd : decode cc pc = .ok (.i2c, 1)) (hv : (x.toUInt32 % 65536).toInt32 = v) (k : J E nL g ws lv cells slots (pc + 1) (.int v :: st)) : J E nL g ws lv cells slots pc (.int x :: st) := by
  obtain ⟨p, l, e, R, s, m, args, below, meth, c, A, Q⟩ := g
  exact fun H locs ls hP hD hS hl => lv_i2c hg.1 hg.2.1 hd hv (k H locs ls hP hD hS hl)
theorem j_iushr (hg : Ok E nL g l0 cc own Ts R0) {x y v : Int32} (hd : decode cc pc = .ok (.iushr, 1)) (hv : (x.toUInt32 >>> (y.toUInt32 &&& Int32.toUInt32 31)).toInt32 = v) (k : J E nL g ws lv cells slots (pc + 1) (.int v :: st)) : J E nL g ws lv cells slots pc (.int y :: .int x :: st) := by
  obtain ⟨p, l, e, R, s, m, args, below, meth, c, A, Q⟩ := g
  exact fun H locs ls hP hD hS hl => lv_iushr hg.1 hg.2.1 hd hv (k H locs ls hP hD hS hl)
theorem j_lushr (hg : Ok E nL g l0 cc own Ts R0) {x v : Int64} {y : Int32} (hd : decode cc pc = .ok (.lushr, 1)) (hv : (x.toUInt64 >>> (y.toInt64.toUInt64 &&& Int64.toUInt64 63)).toInt64 = v) (k : J E nL g ws lv cells slots (pc + 1) (.long v :: st)) : J E nL g ws lv cells slots pc (.int y :: .long x :: st) := by
  obtain ⟨p, l, e, R, s, m, args, below, meth, c, A, Q⟩ := g
  exact fun H locs ls hP hD hS hl => lv_lushr hg.1 hg.2.1 hd hv (k H locs ls hP hD hS hl)
theorem j_lshl (hg : Ok E nL g l0 cc own Ts R0) {x v : Int64} {y : Int32} (hd : decode cc pc = .ok (.lshl, 1)) (hv : x <<< (y.toInt64 &&& 63) = v) (k : J E nL g ws lv cells slots (pc + 1) (.long v :: st)) : J E nL g ws lv cells slots pc (.int y :: .long x :: st) := by
  obtain ⟨p, l, e, R, s, m, args, below, meth, c, A, Q⟩ := g
  exact fun H locs ls hP hD hS hl => lv_lshl hg.1 hg.2.1 hd hv (k H locs ls hP hD hS hl)
theorem j_lshr (hg : Ok E nL g l0 cc own Ts R0) {x v : Int64} {y : Int32} (hd : decode cc pc = .ok (.lshr, 1)) (hv : x >>> (y.toInt64 &&& 63) = v) (k : J E nL g ws lv cells slots (pc + 1) (.long v :: st)) : J E nL g ws lv cells slots pc (.int y :: .long x :: st) := by
  obtain ⟨p, l, e, R, s, m, args, below, meth, c, A, Q⟩ := g
  exact fun H locs ls hP hD hS hl => lv_lshr hg.1 hg.2.1 hd hv (k H locs ls hP hD hS hl)
theorem j_dup (hg : Ok E nL g l0 cc own Ts R0) {va : Value} (hd : decode cc pc = .ok (.dup, 1)) (hva : va.category = 1) (k : J E nL g ws lv cells slots (pc + 1) (va :: va :: st)) : J E nL g ws lv cells slots pc (va :: st) := by
  obtain ⟨p, l, e, R, s, m, args, below, meth, c, A, Q⟩ := g
  exact fun H locs ls hP hD hS hl => lv_dup hg.1 hg.2.1 hd hva (k H locs ls hP hD hS hl)
theorem j_pop (hg : Ok E nL g l0 cc own Ts R0) {va : Value} (hd : decode cc pc = .ok (.pop, 1)) (hva : va.category = 1) (k : J E nL g ws lv cells slots (pc + 1) (st)) : J E nL g ws lv cells slots pc (va :: st) := by
  obtain ⟨p, l, e, R, s, m, args, below, meth, c, A, Q⟩ := g
  exact fun H locs ls hP hD hS hl => lv_pop hg.1 hg.2.1 hd hva (k H locs ls hP hD hS hl)
theorem j_dup_x1 (hg : Ok E nL g l0 cc own Ts R0) {va vb : Value} (hd : decode cc pc = .ok (.dup_x1, 1)) (hva : va.category = 1) (hvb : vb.category = 1) (k : J E nL g ws lv cells slots (pc + 1) (va :: vb :: va :: st)) : J E nL g ws lv cells slots pc (va :: vb :: st) := by
  obtain ⟨p, l, e, R, s, m, args, below, meth, c, A, Q⟩ := g
  exact fun H locs ls hP hD hS hl => lv_dup_x1 hg.1 hg.2.1 hd hva hvb (k H locs ls hP hD hS hl)
theorem j_dup_x2 (hg : Ok E nL g l0 cc own Ts R0) {va vb vd : Value} (hd : decode cc pc = .ok (.dup_x2, 1)) (hva : va.category = 1) (hvb : vb.category = 1) (hvd : vd.category = 1) (k : J E nL g ws lv cells slots (pc + 1) (va :: vb :: vd :: va :: st)) : J E nL g ws lv cells slots pc (va :: vb :: vd :: st) := by
  obtain ⟨p, l, e, R, s, m, args, below, meth, c, A, Q⟩ := g
  exact fun H locs ls hP hD hS hl => lv_dup_x2 hg.1 hg.2.1 hd hva hvb hvd (k H locs ls hP hD hS hl)
theorem j_dup2_11 (hg : Ok E nL g l0 cc own Ts R0) {va vb : Value} (hd : decode cc pc = .ok (.dup2, 1)) (hva : va.category = 1) (hvb : vb.category = 1) (k : J E nL g ws lv cells slots (pc + 1) (va :: vb :: va :: vb :: st)) : J E nL g ws lv cells slots pc (va :: vb :: st) := by
  obtain ⟨p, l, e, R, s, m, args, below, meth, c, A, Q⟩ := g
  exact fun H locs ls hP hD hS hl => lv_dup2_11 hg.1 hg.2.1 hd hva hvb (k H locs ls hP hD hS hl)
theorem j_dup2_2 (hg : Ok E nL g l0 cc own Ts R0) {va : Value} (hd : decode cc pc = .ok (.dup2, 1)) (hva : va.category = 2) (k : J E nL g ws lv cells slots (pc + 1) (va :: va :: st)) : J E nL g ws lv cells slots pc (va :: st) := by
  obtain ⟨p, l, e, R, s, m, args, below, meth, c, A, Q⟩ := g
  exact fun H locs ls hP hD hS hl => lv_dup2_2 hg.1 hg.2.1 hd hva (k H locs ls hP hD hS hl)
theorem j_pop2_2 (hg : Ok E nL g l0 cc own Ts R0) {va : Value} (hd : decode cc pc = .ok (.pop2, 1)) (hva : va.category = 2) (k : J E nL g ws lv cells slots (pc + 1) (st)) : J E nL g ws lv cells slots pc (va :: st) := by
  obtain ⟨p, l, e, R, s, m, args, below, meth, c, A, Q⟩ := g
  exact fun H locs ls hP hD hS hl => lv_pop2_2 hg.1 hg.2.1 hd hva (k H locs ls hP hD hS hl)
theorem j_dup2_x1_2 (hg : Ok E nL g l0 cc own Ts R0) {va vb : Value} (hd : decode cc pc = .ok (.dup2_x1, 1)) (hva : va.category = 2) (hvb : vb.category = 1) (k : J E nL g ws lv cells slots (pc + 1) (va :: vb :: va :: st)) : J E nL g ws lv cells slots pc (va :: vb :: st) := by
  obtain ⟨p, l, e, R, s, m, args, below, meth, c, A, Q⟩ := g
  exact fun H locs ls hP hD hS hl => lv_dup2_x1_2 hg.1 hg.2.1 hd hva hvb (k H locs ls hP hD hS hl)
theorem j_dup2_x2_2 (hg : Ok E nL g l0 cc own Ts R0) {va vb vd : Value} (hd : decode cc pc = .ok (.dup2_x2, 1)) (hva : va.category = 2) (hvb : vb.category = 1) (hvd : vd.category = 1) (k : J E nL g ws lv cells slots (pc + 1) (va :: vb :: vd :: va :: st)) : J E nL g ws lv cells slots pc (va :: vb :: vd :: st) := by
  obtain ⟨p, l, e, R, s, m, args, below, meth, c, A, Q⟩ := g
  exact fun H locs ls hP hD hS hl => lv_dup2_x2_2 hg.1 hg.2.1 hd hva hvb hvd (k H locs ls hP hD hS hl)
theorem j_if_eq (hg : Ok E nL g l0 cc own Ts R0) {x : Int32} {off : Int} {tgt : Nat} (hd : decode cc pc = .ok (.ifCond .eq off, 3)) (ht : (pc : Int) + off = (tgt : Int)) (kt : x = 0 → J E nL g ws lv cells slots tgt (st)) (kf : ¬ x = 0 → J E nL g ws lv cells slots (pc + 3) (st)) : J E nL g ws lv cells slots pc (.int x :: st) := by
  obtain ⟨p, l, e, R, s, m, args, below, meth, c, A, Q⟩ := g
  exact fun H locs ls hP hD hS hl => lv_if_eq hg.1 hg.2.1 hd ht (fun h => kt h H locs ls hP hD hS hl) (fun h => kf h H locs ls hP hD hS hl)
theorem j_if_ne (hg : Ok E nL g l0 cc own Ts R0) {x : Int32} {off : Int} {tgt : Nat} (hd : decode cc pc = .ok (.ifCond .ne off, 3)) (ht : (pc : Int) + off = (tgt : Int)) (kt : ¬ x = 0 → J E nL g ws lv cells slots tgt (st)) (kf : x = 0 → J E nL g ws lv cells slots (pc + 3) (st)) : J E nL g ws lv cells slots pc (.int x :: st) := by
  obtain ⟨p, l, e, R, s, m, args, below, meth, c, A, Q⟩ := g
  exact fun H locs ls hP hD hS hl => lv_if_ne hg.1 hg.2.1 hd ht (fun h => kt h H locs ls hP hD hS hl) (fun h => kf h H locs ls hP hD hS hl)
theorem j_if_lt (hg : Ok E nL g l0 cc own Ts R0) {x : Int32} {off : Int} {tgt : Nat} (hd : decode cc pc = .ok (.ifCond .lt off, 3)) (ht : (pc : Int) + off = (tgt : Int)) (kt : x < 0 → J E nL g ws lv cells slots tgt (st)) (kf : ¬ x < 0 → J E nL g ws lv cells slots (pc + 3) (st)) : J E nL g ws lv cells slots pc (.int x :: st) := by
  obtain ⟨p, l, e, R, s, m, args, below, meth, c, A, Q⟩ := g
  exact fun H locs ls hP hD hS hl => lv_if_lt hg.1 hg.2.1 hd ht (fun h => kt h H locs ls hP hD hS hl) (fun h => kf h H locs ls hP hD hS hl)
theorem j_if_ge (hg : Ok E nL g l0 cc own Ts R0) {x : Int32} {off : Int} {tgt : Nat} (hd : decode cc pc = .ok (.ifCond .ge off, 3)) (ht : (pc : Int) + off = (tgt : Int)) (kt : 0 ≤ x → J E nL g ws lv cells slots tgt (st)) (kf : ¬ 0 ≤ x → J E nL g ws lv cells slots (pc + 3) (st)) : J E nL g ws lv cells slots pc (.int x :: st) := by
  obtain ⟨p, l, e, R, s, m, args, below, meth, c, A, Q⟩ := g
  exact fun H locs ls hP hD hS hl => lv_if_ge hg.1 hg.2.1 hd ht (fun h => kt h H locs ls hP hD hS hl) (fun h => kf h H locs ls hP hD hS hl)
theorem j_if_gt (hg : Ok E nL g l0 cc own Ts R0) {x : Int32} {off : Int} {tgt : Nat} (hd : decode cc pc = .ok (.ifCond .gt off, 3)) (ht : (pc : Int) + off = (tgt : Int)) (kt : 0 < x → J E nL g ws lv cells slots tgt (st)) (kf : ¬ 0 < x → J E nL g ws lv cells slots (pc + 3) (st)) : J E nL g ws lv cells slots pc (.int x :: st) := by
  obtain ⟨p, l, e, R, s, m, args, below, meth, c, A, Q⟩ := g
  exact fun H locs ls hP hD hS hl => lv_if_gt hg.1 hg.2.1 hd ht (fun h => kt h H locs ls hP hD hS hl) (fun h => kf h H locs ls hP hD hS hl)
theorem j_if_le (hg : Ok E nL g l0 cc own Ts R0) {x : Int32} {off : Int} {tgt : Nat} (hd : decode cc pc = .ok (.ifCond .le off, 3)) (ht : (pc : Int) + off = (tgt : Int)) (kt : x ≤ 0 → J E nL g ws lv cells slots tgt (st)) (kf : ¬ x ≤ 0 → J E nL g ws lv cells slots (pc + 3) (st)) : J E nL g ws lv cells slots pc (.int x :: st) := by
  obtain ⟨p, l, e, R, s, m, args, below, meth, c, A, Q⟩ := g
  exact fun H locs ls hP hD hS hl => lv_if_le hg.1 hg.2.1 hd ht (fun h => kt h H locs ls hP hD hS hl) (fun h => kf h H locs ls hP hD hS hl)
theorem j_icmp_eq (hg : Ok E nL g l0 cc own Ts R0) {x y : Int32} {off : Int} {tgt : Nat} (hd : decode cc pc = .ok (.if_icmp .eq off, 3)) (ht : (pc : Int) + off = (tgt : Int)) (kt : x = y → J E nL g ws lv cells slots tgt (st)) (kf : ¬ x = y → J E nL g ws lv cells slots (pc + 3) (st)) : J E nL g ws lv cells slots pc (.int y :: .int x :: st) := by
  obtain ⟨p, l, e, R, s, m, args, below, meth, c, A, Q⟩ := g
  exact fun H locs ls hP hD hS hl => lv_icmp_eq hg.1 hg.2.1 hd ht (fun h => kt h H locs ls hP hD hS hl) (fun h => kf h H locs ls hP hD hS hl)
theorem j_icmp_ne (hg : Ok E nL g l0 cc own Ts R0) {x y : Int32} {off : Int} {tgt : Nat} (hd : decode cc pc = .ok (.if_icmp .ne off, 3)) (ht : (pc : Int) + off = (tgt : Int)) (kt : ¬ x = y → J E nL g ws lv cells slots tgt (st)) (kf : x = y → J E nL g ws lv cells slots (pc + 3) (st)) : J E nL g ws lv cells slots pc (.int y :: .int x :: st) := by
  obtain ⟨p, l, e, R, s, m, args, below, meth, c, A, Q⟩ := g
  exact fun H locs ls hP hD hS hl => lv_icmp_ne hg.1 hg.2.1 hd ht (fun h => kt h H locs ls hP hD hS hl) (fun h => kf h H locs ls hP hD hS hl)
theorem j_icmp_lt (hg : Ok E nL g l0 cc own Ts R0) {x y : Int32} {off : Int} {tgt : Nat} (hd : decode cc pc = .ok (.if_icmp .lt off, 3)) (ht : (pc : Int) + off = (tgt : Int)) (kt : x < y → J E nL g ws lv cells slots tgt (st)) (kf : ¬ x < y → J E nL g ws lv cells slots (pc + 3) (st)) : J E nL g ws lv cells slots pc (.int y :: .int x :: st) := by
  obtain ⟨p, l, e, R, s, m, args, below, meth, c, A, Q⟩ := g
  exact fun H locs ls hP hD hS hl => lv_icmp_lt hg.1 hg.2.1 hd ht (fun h => kt h H locs ls hP hD hS hl) (fun h => kf h H locs ls hP hD hS hl)
theorem j_icmp_ge (hg : Ok E nL g l0 cc own Ts R0) {x y : Int32} {off : Int} {tgt : Nat} (hd : decode cc pc = .ok (.if_icmp .ge off, 3)) (ht : (pc : Int) + off = (tgt : Int)) (kt : y ≤ x → J E nL g ws lv cells slots tgt (st)) (kf : ¬ y ≤ x → J E nL g ws lv cells slots (pc + 3) (st)) : J E nL g ws lv cells slots pc (.int y :: .int x :: st) := by
  obtain ⟨p, l, e, R, s, m, args, below, meth, c, A, Q⟩ := g
  exact fun H locs ls hP hD hS hl => lv_icmp_ge hg.1 hg.2.1 hd ht (fun h => kt h H locs ls hP hD hS hl) (fun h => kf h H locs ls hP hD hS hl)
theorem j_icmp_gt (hg : Ok E nL g l0 cc own Ts R0) {x y : Int32} {off : Int} {tgt : Nat} (hd : decode cc pc = .ok (.if_icmp .gt off, 3)) (ht : (pc : Int) + off = (tgt : Int)) (kt : y < x → J E nL g ws lv cells slots tgt (st)) (kf : ¬ y < x → J E nL g ws lv cells slots (pc + 3) (st)) : J E nL g ws lv cells slots pc (.int y :: .int x :: st) := by
  obtain ⟨p, l, e, R, s, m, args, below, meth, c, A, Q⟩ := g
  exact fun H locs ls hP hD hS hl => lv_icmp_gt hg.1 hg.2.1 hd ht (fun h => kt h H locs ls hP hD hS hl) (fun h => kf h H locs ls hP hD hS hl)
theorem j_icmp_le (hg : Ok E nL g l0 cc own Ts R0) {x y : Int32} {off : Int} {tgt : Nat} (hd : decode cc pc = .ok (.if_icmp .le off, 3)) (ht : (pc : Int) + off = (tgt : Int)) (kt : x ≤ y → J E nL g ws lv cells slots tgt (st)) (kf : ¬ x ≤ y → J E nL g ws lv cells slots (pc + 3) (st)) : J E nL g ws lv cells slots pc (.int y :: .int x :: st) := by
  obtain ⟨p, l, e, R, s, m, args, below, meth, c, A, Q⟩ := g
  exact fun H locs ls hP hD hS hl => lv_icmp_le hg.1 hg.2.1 hd ht (fun h => kt h H locs ls hP hD hS hl) (fun h => kf h H locs ls hP hD hS hl)
theorem j_goto (hg : Ok E nL g l0 cc own Ts R0) {off : Int} {tgt : Nat} (hd : decode cc pc = .ok (.goto off, 3)) (ht : (pc : Int) + off = (tgt : Int)) (k : J E nL g ws lv cells slots tgt (st)) : J E nL g ws lv cells slots pc (st) := by
  obtain ⟨p, l, e, R, s, m, args, below, meth, c, A, Q⟩ := g
  exact fun H locs ls hP hD hS hl => lv_goto hg.1 hg.2.1 hd ht (k H locs ls hP hD hS hl)
theorem j_ldc (hg : Ok E nL g l0 cc own Ts R0) {index : Nat} {v : Int32} (hc : Cond.constant own index v ∈ Ts) (hd : decode cc pc = .ok (.ldc index, 2)) (k : J E nL g ws lv cells slots (pc + 2) (.int v :: st)) : J E nL g ws lv cells slots pc (st) := by
  obtain ⟨p, l, e, R, s, m, args, below, meth, c, A, Q⟩ := g
  exact fun H locs ls hP hD hS hl => lv_ldc hg.1 hg.2.1 hg.2.2.2.1 (hg.2.2.2.2.1 _ hc) hd (k H locs ls hP hD hS hl)
theorem j_ldcw (hg : Ok E nL g l0 cc own Ts R0) {index : Nat} {v : Int32} (hc : Cond.constant own index v ∈ Ts) (hd : decode cc pc = .ok (.ldc_w index, 3)) (k : J E nL g ws lv cells slots (pc + 3) (.int v :: st)) : J E nL g ws lv cells slots pc (st) := by
  obtain ⟨p, l, e, R, s, m, args, below, meth, c, A, Q⟩ := g
  exact fun H locs ls hP hD hS hl => lv_ldcw hg.1 hg.2.1 hg.2.2.2.1 (hg.2.2.2.2.1 _ hc) hd (k H locs ls hP hD hS hl)
theorem j_ldc2 (hg : Ok E nL g l0 cc own Ts R0) {index : Nat} {v : Int64} (hc : Cond.constantLong own index v ∈ Ts) (hd : decode cc pc = .ok (.ldc2_w index, 3)) (k : J E nL g ws lv cells slots (pc + 3) (.long v :: st)) : J E nL g ws lv cells slots pc (st) := by
  obtain ⟨p, l, e, R, s, m, args, below, meth, c, A, Q⟩ := g
  exact fun H locs ls hP hD hS hl => lv_ldc2 hg.1 hg.2.1 hg.2.2.2.1 (hg.2.2.2.2.1 _ hc) hd (k H locs ls hP hD hS hl)
theorem j_get (hg : Ok E nL g l0 cc own Ts R0) {C : String} {T : u_T} {N ci index a : Nat} {fs : List Value} {v : Value} (hin : ∀ w ∈ u_ws C T N, w ∈ Ts) (q0 : Nat) (he : ws[q0]? = some (ob a ci fs)) (hc : vwCl[ci]? = some (C, T, N)) (f : Nat) (hk : f < N) (hl : Cond.fieldLink own index (T f).1 (T f).2.1 (T f).2.2.1 ∈ Ts) (hv : fs[f]? = some v) (hd : decode cc pc = .ok (.getfield index, 3)) (k : J E nL g ws lv cells slots (pc + 3) (v :: st)) : J E nL g ws lv cells slots pc (.ref a :: st) := by
  obtain ⟨p, l, e, R, s, m, args, below, meth, c, A, Q⟩ := g
  exact fun H locs ls hP hD hS hl9 => va_get hg.1 hg.2.1 hg.2.2.2.2.1 hin hg.2.2.2.1 hg.2.2.2.2.2.1 hP q0 he hc f hk (hg.2.2.2.2.1 _ hl) (fun _ h9 => h9) hv hd (k H locs ls hP hD hS hl9)
theorem j_put (hg : Ok E nL g l0 cc own Ts R0) {C : String} {T : u_T} {N ci index a : Nat} {fs : List Value} {v : Value} {ty : FieldType} {ws' : va_W} (hin : ∀ w ∈ u_ws C T N, w ∈ Ts) (ty0 : Nat → FieldType) (hty : ∀ k, k < N → parseFieldDescriptor (T k).2.2.1 = some (ty0 k)) (hnm : ∀ a, a < N → ∀ b, b < N → a ≠ b → (T a).2.1 ≠ (T b).2.1) (q0 : Nat) (he : ws[q0]? = some (ob a ci fs)) (hc : vwCl[ci]? = some (C, T, N)) (f : Nat) (hk : f < N) (hl : Cond.fieldLink own index (T f).1 (T f).2.1 (T f).2.2.1 ∈ Ts) (hfin : (T f).2.2.2 = false) (hpd : parseFieldDescriptor (T f).2.2.1 = some ty) (hn : narrow ty v = v) (hfit : fits ty v = true) (hlt : f < fs.length) (hw : ws.set q0 (ob a ci (fs.set f v)) = ws') (hd : decode cc pc = .ok (.putfield index, 3)) (k : J E nL g ws' lv cells slots (pc + 3) (st)) : J E nL g ws lv cells slots pc (v :: .ref a :: st) := by
  obtain ⟨p, l, e, R, s, m, args, below, meth, c, A, Q⟩ := g
  subst hw
  exact fun H locs ls hP hD hS hl9 => va_put hg.1 hg.2.1 hg.2.2.2.2.1 hin ty0 hty hnm hg.2.2.2.1 hg.2.2.2.2.2.1 hP hD hS q0 he hc f hk (hg.2.2.2.2.1 _ hl) (fun _ h9 => h9) hfin hpd hn hfit hlt hd (fun H1 locs1 hP1 hD1 hS1 => k H1 locs1 ls hP1 hD1 hS1 hl9)
theorem j_putF {w0 : va_W} {S : Type} {post : S → Prop} {r : S → Option Value} {w1 : S → va_W} {rm : Room} {ret : Option FieldType} (hg : Ok E nL g l0 cc own Ts R0) (hR : Rt E g w0 S post r w1 rm ret "<init>") {C : String} {T : u_T} {N ci index a : Nat} {fs : List Value} {v : Value} {ty : FieldType} {ws' : va_W} (hin : ∀ w ∈ u_ws C T N, w ∈ Ts) (ty0 : Nat → FieldType) (hty : ∀ k, k < N → parseFieldDescriptor (T k).2.2.1 = some (ty0 k)) (hnm : ∀ a, a < N → ∀ b, b < N → a ≠ b → (T a).2.1 ≠ (T b).2.1) (q0 : Nat) (he : ws[q0]? = some (ob a ci fs)) (hc : vwCl[ci]? = some (C, T, N)) (f : Nat) (hk : f < N) (hl : Cond.fieldLink own index (T f).1 (T f).2.1 (T f).2.2.1 ∈ Ts) (hfin : (T f).2.2.2 = true) (ho : (T f).1 = own) (hpd : parseFieldDescriptor (T f).2.2.1 = some ty) (hn : narrow ty v = v) (hfit : fits ty v = true) (hlt : f < fs.length) (hw : ws.set q0 (ob a ci (fs.set f v)) = ws') (hd : decode cc pc = .ok (.putfield index, 3)) (k : J E nL g ws' lv cells slots (pc + 3) (st)) : J E nL g ws lv cells slots pc (v :: .ref a :: st) := by
  obtain ⟨p, l, e, R, s, m, args, below, meth, c, A, Q⟩ := g
  subst hw
  exact fun H locs ls hP hD hS hl9 => va_putF hg.1 hg.2.1 hg.2.2.2.2.1 hin ty0 hty hnm hg.2.2.2.1 hg.2.2.2.2.2.1 hP hD hS q0 he hc f hk (hg.2.2.2.2.1 _ hl) (fun _ h9 => h9) hfin hR.2.2.2 ho hpd hn hfit hlt hd (fun H1 locs1 hP1 hD1 hS1 => k H1 locs1 ls hP1 hD1 hS1 hl9)
theorem j_bald (hg : Ok E nL g l0 cc own Ts R0) {a n : Nat} {f : Nat → Int32} {i : Int32} {v : Int32} (q0 j : Nat) (ha : ws[q0]? = some (aB E a n f)) (hi : i = nI j) (hj : j < n) (hn : n < 2147483648) (hv : f j = v) (hd : decode cc pc = .ok (.baload, 1)) (k : J E nL g ws lv cells slots (pc + 1) (.int v :: st)) : J E nL g ws lv cells slots pc (.int i :: .ref a :: st) := by
  obtain ⟨p, l, e, R, s, m, args, below, meth, c, A, Q⟩ := g
  subst hi hv
  have e : (nI j).toNatClampNeg = j := nI_clamp (by omega)
  exact fun H locs ls hP hD hS hl => va_bald hg.1 hg.2.1 hg.2.2.2.2.2.1 hP q0 0 ha rfl (vp_in_nI hj hn) hd (by rw [e]; exact k H locs ls hP hD hS hl)
theorem j_iald (hg : Ok E nL g l0 cc own Ts R0) {a n : Nat} {f : Nat → Int32} {i : Int32} {v : Int32} (q0 j : Nat) (ha : ws[q0]? = some (aI E a n f)) (hi : i = nI j) (hj : j < n) (hn : n < 2147483648) (hv : f j = v) (hd : decode cc pc = .ok (.iaload, 1)) (k : J E nL g ws lv cells slots (pc + 1) (.int v :: st)) : J E nL g ws lv cells slots pc (.int i :: .ref a :: st) := by
  obtain ⟨p, l, e, R, s, m, args, below, meth, c, A, Q⟩ := g
  subst hi hv
  have e : (nI j).toNatClampNeg = j := nI_clamp (by omega)
  exact fun H locs ls hP hD hS hl => va_iald hg.1 hg.2.1 hg.2.2.2.2.2.1 hP q0 1 ha rfl (vp_in_nI hj hn) hd (by rw [e]; exact k H locs ls hP hD hS hl)
theorem j_lald (hg : Ok E nL g l0 cc own Ts R0) {a n : Nat} {f : Nat → Int64} {i : Int32} {v : Int64} (q0 j : Nat) (ha : ws[q0]? = some (aL E a n f)) (hi : i = nI j) (hj : j < n) (hn : n < 2147483648) (hv : f j = v) (hd : decode cc pc = .ok (.laload, 1)) (k : J E nL g ws lv cells slots (pc + 1) (.long v :: st)) : J E nL g ws lv cells slots pc (.int i :: .ref a :: st) := by
  obtain ⟨p, l, e, R, s, m, args, below, meth, c, A, Q⟩ := g
  subst hi hv
  have e : (nI j).toNatClampNeg = j := nI_clamp (by omega)
  exact fun H locs ls hP hD hS hl => va_lald hg.1 hg.2.1 hg.2.2.2.2.2.1 hP q0 2 ha rfl (vp_in_nI hj hn) hd (by rw [e]; exact k H locs ls hP hD hS hl)
theorem j_bast (hg : Ok E nL g l0 cc own Ts R0) {a n : Nat} {f : Nat → Int32} {i : Int32} {x v : Int32} {ws' : va_W} (q0 j : Nat) (ha : ws[q0]? = some (aB E a n f)) (hi : i = nI j) (hj : j < n) (hn : n < 2147483648) (hv : vp_nar .byte x = v) (hw : ws.set q0 (aB E a n (upd f j v)) = ws') (hd : decode cc pc = .ok (.bastore, 1)) (k : J E nL g ws' lv cells slots (pc + 1) (st)) : J E nL g ws lv cells slots pc (.int x :: .int i :: .ref a :: st) := by
  obtain ⟨p, l, e, R, s, m, args, below, meth, c, A, Q⟩ := g
  subst hi hv hw
  have e : (nI j).toNatClampNeg = j := nI_clamp (by omega)
  exact fun H locs ls hP hD hS hl => va_bast hg.1 hg.2.1 hg.2.2.2.2.2.1 hP hD hS q0 0 ha rfl (vp_in_nI hj hn) hd (fun H1 locs1 hP1 hD1 hS1 => by rw [e] at hP1 hD1; exact k H1 locs1 ls hP1 hD1 hS1 hl)
theorem j_iast (hg : Ok E nL g l0 cc own Ts R0) {a n : Nat} {f : Nat → Int32} {i : Int32} {x : Int32} {ws' : va_W} (q0 j : Nat) (ha : ws[q0]? = some (aI E a n f)) (hi : i = nI j) (hj : j < n) (hn : n < 2147483648) (hw : ws.set q0 (aI E a n (upd f j x)) = ws') (hd : decode cc pc = .ok (.iastore, 1)) (k : J E nL g ws' lv cells slots (pc + 1) (st)) : J E nL g ws lv cells slots pc (.int x :: .int i :: .ref a :: st) := by
  obtain ⟨p, l, e, R, s, m, args, below, meth, c, A, Q⟩ := g
  subst hi hw
  have e : (nI j).toNatClampNeg = j := nI_clamp (by omega)
  exact fun H locs ls hP hD hS hl => va_iast hg.1 hg.2.1 hg.2.2.2.2.2.1 hP hD hS q0 1 ha rfl (vp_in_nI hj hn) hd (fun H1 locs1 hP1 hD1 hS1 => by rw [e] at hP1 hD1; exact k H1 locs1 ls hP1 hD1 hS1 hl)
theorem j_last (hg : Ok E nL g l0 cc own Ts R0) {a n : Nat} {f : Nat → Int64} {i : Int32} {x : Int64} {ws' : va_W} (q0 j : Nat) (ha : ws[q0]? = some (aL E a n f)) (hi : i = nI j) (hj : j < n) (hn : n < 2147483648) (hw : ws.set q0 (aL E a n (vp_updL f j x)) = ws') (hd : decode cc pc = .ok (.lastore, 1)) (k : J E nL g ws' lv cells slots (pc + 1) (st)) : J E nL g ws lv cells slots pc (.long x :: .int i :: .ref a :: st) := by
  obtain ⟨p, l, e, R, s, m, args, below, meth, c, A, Q⟩ := g
  subst hi hw
  have e : (nI j).toNatClampNeg = j := nI_clamp (by omega)
  exact fun H locs ls hP hD hS hl => va_last hg.1 hg.2.1 hg.2.2.2.2.2.1 hP hD hS q0 2 ha rfl (vp_in_nI hj hn) hd (fun H1 locs1 hP1 hD1 hS1 => by rw [e] at hP1 hD1; exact k H1 locs1 ls hP1 hD1 hS1 hl)
theorem j_alenB (hg : Ok E nL g l0 cc own Ts R0) {a n : Nat} {f : Nat → Int32} {v : Int32} (q0 : Nat) (ha : ws[q0]? = some (aB E a n f)) (hv : nI n = v) (hd : decode cc pc = .ok (.arraylength, 1)) (k : J E nL g ws lv cells slots (pc + 1) (.int v :: st)) : J E nL g ws lv cells slots pc (.ref a :: st) := by
  obtain ⟨p, l, e, R, s, m, args, below, meth, c, A, Q⟩ := g
  exact fun H locs ls hP hD hS hl => va_alen hg.1 hg.2.1 hg.2.2.2.2.2.1 hP q0 0 ha rfl hv hd (k H locs ls hP hD hS hl)
theorem j_alenI (hg : Ok E nL g l0 cc own Ts R0) {a n : Nat} {f : Nat → Int32} {v : Int32} (q0 : Nat) (ha : ws[q0]? = some (aI E a n f)) (hv : nI n = v) (hd : decode cc pc = .ok (.arraylength, 1)) (k : J E nL g ws lv cells slots (pc + 1) (.int v :: st)) : J E nL g ws lv cells slots pc (.ref a :: st) := by
  obtain ⟨p, l, e, R, s, m, args, below, meth, c, A, Q⟩ := g
  exact fun H locs ls hP hD hS hl => va_alen hg.1 hg.2.1 hg.2.2.2.2.2.1 hP q0 1 ha rfl hv hd (k H locs ls hP hD hS hl)
theorem j_alenL (hg : Ok E nL g l0 cc own Ts R0) {a n : Nat} {f : Nat → Int64} {v : Int32} (q0 : Nat) (ha : ws[q0]? = some (aL E a n f)) (hv : nI n = v) (hd : decode cc pc = .ok (.arraylength, 1)) (k : J E nL g ws lv cells slots (pc + 1) (.int v :: st)) : J E nL g ws lv cells slots pc (.ref a :: st) := by
  obtain ⟨p, l, e, R, s, m, args, below, meth, c, A, Q⟩ := g
  exact fun H locs ls hP hD hS hl => va_alen hg.1 hg.2.1 hg.2.2.2.2.2.1 hP q0 2 ha rfl hv hd (k H locs ls hP hD hS hl)
theorem j_nge (hg : Ok E nL g l0 cc own Ts R0) {x y : Int32} {off : Int} {tgt : Nat} (a b : Nat) (hx : x = nI a) (hy : y = nI b) (ha : a < 2147483648) (hb : b < 2147483648) (hd : decode cc pc = .ok (.if_icmp .ge off, 3)) (ht : (pc : Int) + off = (tgt : Int)) (kt : b ≤ a → J E nL g ws lv cells slots tgt st) (kf : a < b → J E nL g ws lv cells slots (pc + 3) st) : J E nL g ws lv cells slots pc (.int y :: .int x :: st) := by
  subst hx hy
  exact j_icmp_ge hg hd ht (fun c => kt ((nI_leI hb ha).mp c)) (fun c => kf (Nat.not_le.mp (fun z => c ((nI_leI hb ha).mpr z))))
theorem j_nge_t (hg : Ok E nL g l0 cc own Ts R0) {x y : Int32} {off : Int} {tgt : Nat} (a b : Nat) (hx : x = nI a) (hy : y = nI b) (ha : a < 2147483648) (hb : b < 2147483648) (h : b ≤ a) (hd : decode cc pc = .ok (.if_icmp .ge off, 3)) (ht : (pc : Int) + off = (tgt : Int)) (k : J E nL g ws lv cells slots tgt st) : J E nL g ws lv cells slots pc (.int y :: .int x :: st) := j_nge hg a b hx hy ha hb hd ht (fun _ => k) (fun z => absurd h (by omega))
theorem j_nge_f (hg : Ok E nL g l0 cc own Ts R0) {x y : Int32} {off : Int} {tgt : Nat} (a b : Nat) (hx : x = nI a) (hy : y = nI b) (ha : a < 2147483648) (hb : b < 2147483648) (h : a < b) (hd : decode cc pc = .ok (.if_icmp .ge off, 3)) (ht : (pc : Int) + off = (tgt : Int)) (k : J E nL g ws lv cells slots (pc + 3) st) : J E nL g ws lv cells slots pc (.int y :: .int x :: st) := j_nge hg a b hx hy ha hb hd ht (fun z => absurd h (by omega)) (fun _ => k)
theorem j_nlt (hg : Ok E nL g l0 cc own Ts R0) {x y : Int32} {off : Int} {tgt : Nat} (a b : Nat) (hx : x = nI a) (hy : y = nI b) (ha : a < 2147483648) (hb : b < 2147483648) (hd : decode cc pc = .ok (.if_icmp .lt off, 3)) (ht : (pc : Int) + off = (tgt : Int)) (kt : a < b → J E nL g ws lv cells slots tgt st) (kf : b ≤ a → J E nL g ws lv cells slots (pc + 3) st) : J E nL g ws lv cells slots pc (.int y :: .int x :: st) := by
  subst hx hy
  exact j_icmp_lt hg hd ht (fun c => kt ((nI_ltI ha hb).mp c)) (fun c => kf (Nat.not_lt.mp (fun z => c ((nI_ltI ha hb).mpr z))))
theorem j_nlt_t (hg : Ok E nL g l0 cc own Ts R0) {x y : Int32} {off : Int} {tgt : Nat} (a b : Nat) (hx : x = nI a) (hy : y = nI b) (ha : a < 2147483648) (hb : b < 2147483648) (h : a < b) (hd : decode cc pc = .ok (.if_icmp .lt off, 3)) (ht : (pc : Int) + off = (tgt : Int)) (k : J E nL g ws lv cells slots tgt st) : J E nL g ws lv cells slots pc (.int y :: .int x :: st) := j_nlt hg a b hx hy ha hb hd ht (fun _ => k) (fun z => absurd h (by omega))
theorem j_nlt_f (hg : Ok E nL g l0 cc own Ts R0) {x y : Int32} {off : Int} {tgt : Nat} (a b : Nat) (hx : x = nI a) (hy : y = nI b) (ha : a < 2147483648) (hb : b < 2147483648) (h : b ≤ a) (hd : decode cc pc = .ok (.if_icmp .lt off, 3)) (ht : (pc : Int) + off = (tgt : Int)) (k : J E nL g ws lv cells slots (pc + 3) st) : J E nL g ws lv cells slots pc (.int y :: .int x :: st) := j_nlt hg a b hx hy ha hb hd ht (fun z => absurd h (by omega)) (fun _ => k)
theorem j_ngt (hg : Ok E nL g l0 cc own Ts R0) {x y : Int32} {off : Int} {tgt : Nat} (a b : Nat) (hx : x = nI a) (hy : y = nI b) (ha : a < 2147483648) (hb : b < 2147483648) (hd : decode cc pc = .ok (.if_icmp .gt off, 3)) (ht : (pc : Int) + off = (tgt : Int)) (kt : b < a → J E nL g ws lv cells slots tgt st) (kf : a ≤ b → J E nL g ws lv cells slots (pc + 3) st) : J E nL g ws lv cells slots pc (.int y :: .int x :: st) := by
  subst hx hy
  exact j_icmp_gt hg hd ht (fun c => kt ((nI_ltI hb ha).mp c)) (fun c => kf (Nat.not_lt.mp (fun z => c ((nI_ltI hb ha).mpr z))))
theorem j_ngt_t (hg : Ok E nL g l0 cc own Ts R0) {x y : Int32} {off : Int} {tgt : Nat} (a b : Nat) (hx : x = nI a) (hy : y = nI b) (ha : a < 2147483648) (hb : b < 2147483648) (h : b < a) (hd : decode cc pc = .ok (.if_icmp .gt off, 3)) (ht : (pc : Int) + off = (tgt : Int)) (k : J E nL g ws lv cells slots tgt st) : J E nL g ws lv cells slots pc (.int y :: .int x :: st) := j_ngt hg a b hx hy ha hb hd ht (fun _ => k) (fun z => absurd h (by omega))
theorem j_ngt_f (hg : Ok E nL g l0 cc own Ts R0) {x y : Int32} {off : Int} {tgt : Nat} (a b : Nat) (hx : x = nI a) (hy : y = nI b) (ha : a < 2147483648) (hb : b < 2147483648) (h : a ≤ b) (hd : decode cc pc = .ok (.if_icmp .gt off, 3)) (ht : (pc : Int) + off = (tgt : Int)) (k : J E nL g ws lv cells slots (pc + 3) st) : J E nL g ws lv cells slots pc (.int y :: .int x :: st) := j_ngt hg a b hx hy ha hb hd ht (fun z => absurd h (by omega)) (fun _ => k)
theorem j_nle (hg : Ok E nL g l0 cc own Ts R0) {x y : Int32} {off : Int} {tgt : Nat} (a b : Nat) (hx : x = nI a) (hy : y = nI b) (ha : a < 2147483648) (hb : b < 2147483648) (hd : decode cc pc = .ok (.if_icmp .le off, 3)) (ht : (pc : Int) + off = (tgt : Int)) (kt : a ≤ b → J E nL g ws lv cells slots tgt st) (kf : b < a → J E nL g ws lv cells slots (pc + 3) st) : J E nL g ws lv cells slots pc (.int y :: .int x :: st) := by
  subst hx hy
  exact j_icmp_le hg hd ht (fun c => kt ((nI_leI ha hb).mp c)) (fun c => kf (Nat.not_le.mp (fun z => c ((nI_leI ha hb).mpr z))))
theorem j_nle_t (hg : Ok E nL g l0 cc own Ts R0) {x y : Int32} {off : Int} {tgt : Nat} (a b : Nat) (hx : x = nI a) (hy : y = nI b) (ha : a < 2147483648) (hb : b < 2147483648) (h : a ≤ b) (hd : decode cc pc = .ok (.if_icmp .le off, 3)) (ht : (pc : Int) + off = (tgt : Int)) (k : J E nL g ws lv cells slots tgt st) : J E nL g ws lv cells slots pc (.int y :: .int x :: st) := j_nle hg a b hx hy ha hb hd ht (fun _ => k) (fun z => absurd h (by omega))
theorem j_nle_f (hg : Ok E nL g l0 cc own Ts R0) {x y : Int32} {off : Int} {tgt : Nat} (a b : Nat) (hx : x = nI a) (hy : y = nI b) (ha : a < 2147483648) (hb : b < 2147483648) (h : b < a) (hd : decode cc pc = .ok (.if_icmp .le off, 3)) (ht : (pc : Int) + off = (tgt : Int)) (k : J E nL g ws lv cells slots (pc + 3) st) : J E nL g ws lv cells slots pc (.int y :: .int x :: st) := j_nle hg a b hx hy ha hb hd ht (fun z => absurd h (by omega)) (fun _ => k)
theorem j_neq (hg : Ok E nL g l0 cc own Ts R0) {x y : Int32} {off : Int} {tgt : Nat} (a b : Nat) (hx : x = nI a) (hy : y = nI b) (ha : a < 2147483648) (hb : b < 2147483648) (hd : decode cc pc = .ok (.if_icmp .eq off, 3)) (ht : (pc : Int) + off = (tgt : Int)) (kt : a = b → J E nL g ws lv cells slots tgt st) (kf : a ≠ b → J E nL g ws lv cells slots (pc + 3) st) : J E nL g ws lv cells slots pc (.int y :: .int x :: st) := by
  subst hx hy
  exact j_icmp_eq hg hd ht (fun c => kt ((nI_eq ha hb).mp c)) (fun c => kf (fun z => c ((nI_eq ha hb).mpr z)))
theorem j_neq_t (hg : Ok E nL g l0 cc own Ts R0) {x y : Int32} {off : Int} {tgt : Nat} (a b : Nat) (hx : x = nI a) (hy : y = nI b) (ha : a < 2147483648) (hb : b < 2147483648) (h : a = b) (hd : decode cc pc = .ok (.if_icmp .eq off, 3)) (ht : (pc : Int) + off = (tgt : Int)) (k : J E nL g ws lv cells slots tgt st) : J E nL g ws lv cells slots pc (.int y :: .int x :: st) := j_neq hg a b hx hy ha hb hd ht (fun _ => k) (fun z => absurd h (by omega))
theorem j_neq_f (hg : Ok E nL g l0 cc own Ts R0) {x y : Int32} {off : Int} {tgt : Nat} (a b : Nat) (hx : x = nI a) (hy : y = nI b) (ha : a < 2147483648) (hb : b < 2147483648) (h : a ≠ b) (hd : decode cc pc = .ok (.if_icmp .eq off, 3)) (ht : (pc : Int) + off = (tgt : Int)) (k : J E nL g ws lv cells slots (pc + 3) st) : J E nL g ws lv cells slots pc (.int y :: .int x :: st) := j_neq hg a b hx hy ha hb hd ht (fun z => absurd h (by omega)) (fun _ => k)
theorem j_nne (hg : Ok E nL g l0 cc own Ts R0) {x y : Int32} {off : Int} {tgt : Nat} (a b : Nat) (hx : x = nI a) (hy : y = nI b) (ha : a < 2147483648) (hb : b < 2147483648) (hd : decode cc pc = .ok (.if_icmp .ne off, 3)) (ht : (pc : Int) + off = (tgt : Int)) (kt : a ≠ b → J E nL g ws lv cells slots tgt st) (kf : a = b → J E nL g ws lv cells slots (pc + 3) st) : J E nL g ws lv cells slots pc (.int y :: .int x :: st) := by
  subst hx hy
  exact j_icmp_ne hg hd ht (fun c => kt (fun z => c ((nI_eq ha hb).mpr z))) (fun c => kf ((nI_eq ha hb).mp c))
theorem j_nne_t (hg : Ok E nL g l0 cc own Ts R0) {x y : Int32} {off : Int} {tgt : Nat} (a b : Nat) (hx : x = nI a) (hy : y = nI b) (ha : a < 2147483648) (hb : b < 2147483648) (h : a ≠ b) (hd : decode cc pc = .ok (.if_icmp .ne off, 3)) (ht : (pc : Int) + off = (tgt : Int)) (k : J E nL g ws lv cells slots tgt st) : J E nL g ws lv cells slots pc (.int y :: .int x :: st) := j_nne hg a b hx hy ha hb hd ht (fun _ => k) (fun z => absurd h (by omega))
theorem j_nne_f (hg : Ok E nL g l0 cc own Ts R0) {x y : Int32} {off : Int} {tgt : Nat} (a b : Nat) (hx : x = nI a) (hy : y = nI b) (ha : a < 2147483648) (hb : b < 2147483648) (h : a = b) (hd : decode cc pc = .ok (.if_icmp .ne off, 3)) (ht : (pc : Int) + off = (tgt : Int)) (k : J E nL g ws lv cells slots (pc + 3) st) : J E nL g ws lv cells slots pc (.int y :: .int x :: st) := j_nne hg a b hx hy ha hb hd ht (fun z => absurd h (by omega)) (fun _ => k)
theorem j_zge (hg : Ok E nL g l0 cc own Ts R0) {x : Int32} {off : Int} {tgt : Nat} (a : Nat) (hx : x = nI a) (ha : a < 2147483648) (hd : decode cc pc = .ok (.ifCond .ge off, 3)) (ht : (pc : Int) + off = (tgt : Int)) (kt : 0 ≤ a → J E nL g ws lv cells slots tgt st) (kf : a < 0 → J E nL g ws lv cells slots (pc + 3) st) : J E nL g ws lv cells slots pc (.int x :: st) := by
  subst hx
  have h0 : (0 : Nat) < 2147483648 := by decide
  exact j_if_ge hg hd ht (fun c => kt ((nI_leI h0 ha).mp c)) (fun c => kf (Nat.not_le.mp (fun z => c ((nI_leI h0 ha).mpr z))))
theorem j_zge_t (hg : Ok E nL g l0 cc own Ts R0) {x : Int32} {off : Int} {tgt : Nat} (a : Nat) (hx : x = nI a) (ha : a < 2147483648) (h : 0 ≤ a) (hd : decode cc pc = .ok (.ifCond .ge off, 3)) (ht : (pc : Int) + off = (tgt : Int)) (k : J E nL g ws lv cells slots tgt st) : J E nL g ws lv cells slots pc (.int x :: st) := j_zge hg a hx ha hd ht (fun _ => k) (fun z => absurd h (by omega))
theorem j_zge_f (hg : Ok E nL g l0 cc own Ts R0) {x : Int32} {off : Int} {tgt : Nat} (a : Nat) (hx : x = nI a) (ha : a < 2147483648) (h : a < 0) (hd : decode cc pc = .ok (.ifCond .ge off, 3)) (ht : (pc : Int) + off = (tgt : Int)) (k : J E nL g ws lv cells slots (pc + 3) st) : J E nL g ws lv cells slots pc (.int x :: st) := j_zge hg a hx ha hd ht (fun z => absurd h (by omega)) (fun _ => k)
theorem j_zlt (hg : Ok E nL g l0 cc own Ts R0) {x : Int32} {off : Int} {tgt : Nat} (a : Nat) (hx : x = nI a) (ha : a < 2147483648) (hd : decode cc pc = .ok (.ifCond .lt off, 3)) (ht : (pc : Int) + off = (tgt : Int)) (kt : a < 0 → J E nL g ws lv cells slots tgt st) (kf : 0 ≤ a → J E nL g ws lv cells slots (pc + 3) st) : J E nL g ws lv cells slots pc (.int x :: st) := by
  subst hx
  have h0 : (0 : Nat) < 2147483648 := by decide
  exact j_if_lt hg hd ht (fun c => kt ((nI_ltI ha h0).mp c)) (fun c => kf (Nat.not_lt.mp (fun z => c ((nI_ltI ha h0).mpr z))))
theorem j_zlt_t (hg : Ok E nL g l0 cc own Ts R0) {x : Int32} {off : Int} {tgt : Nat} (a : Nat) (hx : x = nI a) (ha : a < 2147483648) (h : a < 0) (hd : decode cc pc = .ok (.ifCond .lt off, 3)) (ht : (pc : Int) + off = (tgt : Int)) (k : J E nL g ws lv cells slots tgt st) : J E nL g ws lv cells slots pc (.int x :: st) := j_zlt hg a hx ha hd ht (fun _ => k) (fun z => absurd h (by omega))
theorem j_zlt_f (hg : Ok E nL g l0 cc own Ts R0) {x : Int32} {off : Int} {tgt : Nat} (a : Nat) (hx : x = nI a) (ha : a < 2147483648) (h : 0 ≤ a) (hd : decode cc pc = .ok (.ifCond .lt off, 3)) (ht : (pc : Int) + off = (tgt : Int)) (k : J E nL g ws lv cells slots (pc + 3) st) : J E nL g ws lv cells slots pc (.int x :: st) := j_zlt hg a hx ha hd ht (fun z => absurd h (by omega)) (fun _ => k)
theorem j_zgt (hg : Ok E nL g l0 cc own Ts R0) {x : Int32} {off : Int} {tgt : Nat} (a : Nat) (hx : x = nI a) (ha : a < 2147483648) (hd : decode cc pc = .ok (.ifCond .gt off, 3)) (ht : (pc : Int) + off = (tgt : Int)) (kt : 0 < a → J E nL g ws lv cells slots tgt st) (kf : a ≤ 0 → J E nL g ws lv cells slots (pc + 3) st) : J E nL g ws lv cells slots pc (.int x :: st) := by
  subst hx
  have h0 : (0 : Nat) < 2147483648 := by decide
  exact j_if_gt hg hd ht (fun c => kt ((nI_ltI h0 ha).mp c)) (fun c => kf (Nat.not_lt.mp (fun z => c ((nI_ltI h0 ha).mpr z))))
theorem j_zgt_t (hg : Ok E nL g l0 cc own Ts R0) {x : Int32} {off : Int} {tgt : Nat} (a : Nat) (hx : x = nI a) (ha : a < 2147483648) (h : 0 < a) (hd : decode cc pc = .ok (.ifCond .gt off, 3)) (ht : (pc : Int) + off = (tgt : Int)) (k : J E nL g ws lv cells slots tgt st) : J E nL g ws lv cells slots pc (.int x :: st) := j_zgt hg a hx ha hd ht (fun _ => k) (fun z => absurd h (by omega))
theorem j_zgt_f (hg : Ok E nL g l0 cc own Ts R0) {x : Int32} {off : Int} {tgt : Nat} (a : Nat) (hx : x = nI a) (ha : a < 2147483648) (h : a ≤ 0) (hd : decode cc pc = .ok (.ifCond .gt off, 3)) (ht : (pc : Int) + off = (tgt : Int)) (k : J E nL g ws lv cells slots (pc + 3) st) : J E nL g ws lv cells slots pc (.int x :: st) := j_zgt hg a hx ha hd ht (fun z => absurd h (by omega)) (fun _ => k)
theorem j_zle (hg : Ok E nL g l0 cc own Ts R0) {x : Int32} {off : Int} {tgt : Nat} (a : Nat) (hx : x = nI a) (ha : a < 2147483648) (hd : decode cc pc = .ok (.ifCond .le off, 3)) (ht : (pc : Int) + off = (tgt : Int)) (kt : a ≤ 0 → J E nL g ws lv cells slots tgt st) (kf : 0 < a → J E nL g ws lv cells slots (pc + 3) st) : J E nL g ws lv cells slots pc (.int x :: st) := by
  subst hx
  have h0 : (0 : Nat) < 2147483648 := by decide
  exact j_if_le hg hd ht (fun c => kt ((nI_leI ha h0).mp c)) (fun c => kf (Nat.not_le.mp (fun z => c ((nI_leI ha h0).mpr z))))
theorem j_zle_t (hg : Ok E nL g l0 cc own Ts R0) {x : Int32} {off : Int} {tgt : Nat} (a : Nat) (hx : x = nI a) (ha : a < 2147483648) (h : a ≤ 0) (hd : decode cc pc = .ok (.ifCond .le off, 3)) (ht : (pc : Int) + off = (tgt : Int)) (k : J E nL g ws lv cells slots tgt st) : J E nL g ws lv cells slots pc (.int x :: st) := j_zle hg a hx ha hd ht (fun _ => k) (fun z => absurd h (by omega))
theorem j_zle_f (hg : Ok E nL g l0 cc own Ts R0) {x : Int32} {off : Int} {tgt : Nat} (a : Nat) (hx : x = nI a) (ha : a < 2147483648) (h : 0 < a) (hd : decode cc pc = .ok (.ifCond .le off, 3)) (ht : (pc : Int) + off = (tgt : Int)) (k : J E nL g ws lv cells slots (pc + 3) st) : J E nL g ws lv cells slots pc (.int x :: st) := j_zle hg a hx ha hd ht (fun z => absurd h (by omega)) (fun _ => k)
theorem j_zeq (hg : Ok E nL g l0 cc own Ts R0) {x : Int32} {off : Int} {tgt : Nat} (a : Nat) (hx : x = nI a) (ha : a < 2147483648) (hd : decode cc pc = .ok (.ifCond .eq off, 3)) (ht : (pc : Int) + off = (tgt : Int)) (kt : a = 0 → J E nL g ws lv cells slots tgt st) (kf : a ≠ 0 → J E nL g ws lv cells slots (pc + 3) st) : J E nL g ws lv cells slots pc (.int x :: st) := by
  subst hx
  have h0 : (0 : Nat) < 2147483648 := by decide
  exact j_if_eq hg hd ht (fun c => kt ((nI_eq ha h0).mp c)) (fun c => kf (fun z => c ((nI_eq ha h0).mpr z)))
theorem j_zeq_t (hg : Ok E nL g l0 cc own Ts R0) {x : Int32} {off : Int} {tgt : Nat} (a : Nat) (hx : x = nI a) (ha : a < 2147483648) (h : a = 0) (hd : decode cc pc = .ok (.ifCond .eq off, 3)) (ht : (pc : Int) + off = (tgt : Int)) (k : J E nL g ws lv cells slots tgt st) : J E nL g ws lv cells slots pc (.int x :: st) := j_zeq hg a hx ha hd ht (fun _ => k) (fun z => absurd h (by omega))
theorem j_zeq_f (hg : Ok E nL g l0 cc own Ts R0) {x : Int32} {off : Int} {tgt : Nat} (a : Nat) (hx : x = nI a) (ha : a < 2147483648) (h : a ≠ 0) (hd : decode cc pc = .ok (.ifCond .eq off, 3)) (ht : (pc : Int) + off = (tgt : Int)) (k : J E nL g ws lv cells slots (pc + 3) st) : J E nL g ws lv cells slots pc (.int x :: st) := j_zeq hg a hx ha hd ht (fun z => absurd h (by omega)) (fun _ => k)
theorem j_zne (hg : Ok E nL g l0 cc own Ts R0) {x : Int32} {off : Int} {tgt : Nat} (a : Nat) (hx : x = nI a) (ha : a < 2147483648) (hd : decode cc pc = .ok (.ifCond .ne off, 3)) (ht : (pc : Int) + off = (tgt : Int)) (kt : a ≠ 0 → J E nL g ws lv cells slots tgt st) (kf : a = 0 → J E nL g ws lv cells slots (pc + 3) st) : J E nL g ws lv cells slots pc (.int x :: st) := by
  subst hx
  have h0 : (0 : Nat) < 2147483648 := by decide
  exact j_if_ne hg hd ht (fun c => kt (fun z => c ((nI_eq ha h0).mpr z))) (fun c => kf ((nI_eq ha h0).mp c))
theorem j_zne_t (hg : Ok E nL g l0 cc own Ts R0) {x : Int32} {off : Int} {tgt : Nat} (a : Nat) (hx : x = nI a) (ha : a < 2147483648) (h : a ≠ 0) (hd : decode cc pc = .ok (.ifCond .ne off, 3)) (ht : (pc : Int) + off = (tgt : Int)) (k : J E nL g ws lv cells slots tgt st) : J E nL g ws lv cells slots pc (.int x :: st) := j_zne hg a hx ha hd ht (fun _ => k) (fun z => absurd h (by omega))
theorem j_zne_f (hg : Ok E nL g l0 cc own Ts R0) {x : Int32} {off : Int} {tgt : Nat} (a : Nat) (hx : x = nI a) (ha : a < 2147483648) (h : a = 0) (hd : decode cc pc = .ok (.ifCond .ne off, 3)) (ht : (pc : Int) + off = (tgt : Int)) (k : J E nL g ws lv cells slots (pc + 3) st) : J E nL g ws lv cells slots pc (.int x :: st) := j_zne hg a hx ha hd ht (fun z => absurd h (by omega)) (fun _ => k)
theorem j_gets (hg : Ok E nL g l0 cc own Ts R0) {C n d : String} {ty : FieldType} {N index : Nat} {f : Nat → Value} (z : Nat) (hz : sT[z]? = some (C, n, d, ty, N, f)) (hl : Cond.fieldLink own index C n d ∈ Ts) (hd : decode cc pc = .ok (.getstatic index, 3)) (k : J E nL g ws lv cells slots (pc + 3) (.ref (E.2.2 z) :: st)) : J E nL g ws lv cells slots pc st := by
  obtain ⟨p, l, e, R, s, m, args, below, meth, c, A, Q⟩ := g
  have hZ := (hg.2.2.2.2.2.2.2.1 z _ hz).1
  exact fun H locs ls hP hD hS hl9 => va_gets hg.1 hg.2.1 hZ hS hg.2.2.2.1 (hg.2.2.2.2.1 _ hl) (fun _ h9 => h9) hd (k H locs ls hP hD hS hl9)
theorem j_sti (hg : Ok E nL g l0 cc own Ts R0) {C n d : String} {N : Nat} {f : Nat → Int32} {i v : Int32} (z j : Nat) (hz : sT[z]? = some (C, n, d, .int, N, fun j => .int (f j))) (hi : i = nI j) (hj : j < N) (hn : N < 2147483648) (hv : f j = v) (hd : decode cc pc = .ok (.iaload, 1)) (k : J E nL g ws lv cells slots (pc + 1) (.int v :: st)) : J E nL g ws lv cells slots pc (.int i :: .ref (E.2.2 z) :: st) := by
  obtain ⟨p, l, e, R, s, m, args, below, meth, c, A, Q⟩ := g
  subst hi hv
  have e : (nI j).toNatClampNeg = j := nI_clamp (by omega)
  have hT := (hg.2.2.2.2.2.2.2.1 z _ hz).2
  exact fun H locs ls hP hD hS hl9 => va_ti hg.1 hg.2.1 hT hS (vp_in_nI hj hn) (by rw [e]) hd (k H locs ls hP hD hS hl9)
theorem j_new (hg : Ok E nL g l0 cc own Ts R0) {C : String} {T : u_T} {N ci index : Nat} {fs : List Value} (hin : ∀ w ∈ u_ws C T N, w ∈ Ts) (ty : Nat → FieldType) (hty : ∀ k, k < N → parseFieldDescriptor (T k).2.2.1 = some (ty k)) (hcl : Cond.classLink own index C ∈ Ts) (hinst : Cond.instantiable C N ∈ Ts) (hini : Cond.initialized C ∈ Ts) (hc : vwCl[ci]? = some (C, T, N)) (hfs : ∀ j, j < N → defaultValue (ty j) = vp_V fs j) (hcells : cells + 1 ≤ R0.cells) (hslots : slots + N ≤ R0.slots) (hd : decode cc pc = .ok (.new index, 3)) (k : ∀ q : Nat, J E nL g (ws ++ [ob q ci fs]) lv (cells + 1) (slots + N) (pc + 3) (.ref q :: st)) : J E nL g ws lv cells slots pc st := by
  obtain ⟨p, l, e, R, s, m, args, below, meth, c, A, Q⟩ := g
  have hRR := hg.2.2.2.2.2.2.2.2.1
  subst hRR
  exact fun H locs ls hP hD hS hl9 => va_new hg.1 hg.2.1 hg.2.2.2.2.1 hin ty hty hg.2.2.2.1 (hg.2.2.2.2.1 _ hcl) (hg.2.2.2.2.1 _ hinst) (hg.2.2.2.2.1 _ hini) hg.2.2.2.2.2.1 hP hD hS hg.2.2.2.2.2.2.1 hc hfs hcells hslots hd (fun q H1 hP1 hD1 hS1 => k q H1 locs ls hP1 hD1 hS1 hl9)
theorem eT_cls {E : Ev} {U : State} {tys : List (ClassId × FieldType)} {cA : ClassId} {ty : FieldType} (hK : va_K E.1 vwCl (tys ++ [(cA, ty)]) U) : ArrOfT U cA ty ∧ va_RA U cA ty := hK.2 tys.length (cA, ty) (by simp)
theorem j_newB (hg : Ok E nL g l0 cc own Ts R0) {n : Int32} (N : Nat) (hA : Cond.arrayClass .byte ∈ Ts) (hn : n = nI N) (hN : N < 1000000) (hcells : cells + 1 ≤ R0.cells) (hslots : slots + N ≤ R0.slots) (hd : decode cc pc = .ok (.newarray .byte, 2)) (k : ∀ q : Nat, J E nL g (ws ++ [aB E q N (fun _ => 0)]) lv (cells + 1) (slots + N) (pc + 2) (.ref q :: st)) : J E nL g ws lv cells slots pc (.int n :: st) := by
  obtain ⟨p, l, e, R, s, m, args, below, meth, c, A, Q⟩ := g
  have hRR := hg.2.2.2.2.2.2.2.2.1
  subst hRR
  subst hn
  intro H locs ls hP hD hS hl9
  refine va_newa (atype := .byte) (ty := .byte) (a0 := (N, .inl (fun _ => 0))) hg.1 hg.2.1 (hg.2.2.2.2.1 _ hA) rfl hg.2.2.2.2.2.1 hP hD hS hg.2.2.2.2.2.2.1 (fun cA => rfl) (nI_pos (by omega)) (nI_clamp (by omega)) (by show N * 1 ≤ _; omega) hcells hslots hd (fun q cA H1 hK1 hP1 hD1 hS1 => ?_)
  have e1 : s.vm.findClass _ = some cA := (eT_cls hK1).2
  have e2 : s.vm.findClass _ = some E.2.1.1 := (hg.2.2.2.2.2.1.2 0 _ rfl).2
  have e3 : cA = E.2.1.1 := Option.some.inj (e1.symm.trans e2)
  subst e3
  exact k q H1 locs ls hP1 hD1 hS1 hl9
theorem j_newI (hg : Ok E nL g l0 cc own Ts R0) {n : Int32} (N : Nat) (hA : Cond.arrayClass .int ∈ Ts) (hn : n = nI N) (hN : N < 1000000) (hcells : cells + 1 ≤ R0.cells) (hslots : slots + N ≤ R0.slots) (hd : decode cc pc = .ok (.newarray .int, 2)) (k : ∀ q : Nat, J E nL g (ws ++ [aI E q N (fun _ => 0)]) lv (cells + 1) (slots + N) (pc + 2) (.ref q :: st)) : J E nL g ws lv cells slots pc (.int n :: st) := by
  obtain ⟨p, l, e, R, s, m, args, below, meth, c, A, Q⟩ := g
  have hRR := hg.2.2.2.2.2.2.2.2.1
  subst hRR
  subst hn
  intro H locs ls hP hD hS hl9
  refine va_newa (atype := .int) (ty := .int) (a0 := (N, .inl (fun _ => 0))) hg.1 hg.2.1 (hg.2.2.2.2.1 _ hA) rfl hg.2.2.2.2.2.1 hP hD hS hg.2.2.2.2.2.2.1 (fun cA => rfl) (nI_pos (by omega)) (nI_clamp (by omega)) (by show N * 4 ≤ _; omega) hcells hslots hd (fun q cA H1 hK1 hP1 hD1 hS1 => ?_)
  have e1 : s.vm.findClass _ = some cA := (eT_cls hK1).2
  have e2 : s.vm.findClass _ = some E.2.1.2.1 := (hg.2.2.2.2.2.1.2 1 _ rfl).2
  have e3 : cA = E.2.1.2.1 := Option.some.inj (e1.symm.trans e2)
  subst e3
  exact k q H1 locs ls hP1 hD1 hS1 hl9
theorem j_newL (hg : Ok E nL g l0 cc own Ts R0) {n : Int32} (N : Nat) (hA : Cond.arrayClass .long ∈ Ts) (hn : n = nI N) (hN : N < 1000000) (hcells : cells + 1 ≤ R0.cells) (hslots : slots + N ≤ R0.slots) (hd : decode cc pc = .ok (.newarray .long, 2)) (k : ∀ q : Nat, J E nL g (ws ++ [aL E q N (fun _ => 0)]) lv (cells + 1) (slots + N) (pc + 2) (.ref q :: st)) : J E nL g ws lv cells slots pc (.int n :: st) := by
  obtain ⟨p, l, e, R, s, m, args, below, meth, c, A, Q⟩ := g
  have hRR := hg.2.2.2.2.2.2.2.2.1
  subst hRR
  subst hn
  intro H locs ls hP hD hS hl9
  refine va_newa (atype := .long) (ty := .long) (a0 := (N, .inr (.inl (fun _ => 0)))) hg.1 hg.2.1 (hg.2.2.2.2.1 _ hA) rfl hg.2.2.2.2.2.1 hP hD hS hg.2.2.2.2.2.2.1 (fun cA => rfl) (nI_pos (by omega)) (nI_clamp (by omega)) (by show N * 8 ≤ _; omega) hcells hslots hd (fun q cA H1 hK1 hP1 hD1 hS1 => ?_)
  have e1 : s.vm.findClass _ = some cA := (eT_cls hK1).2
  have e2 : s.vm.findClass _ = some E.2.1.2.2 := (hg.2.2.2.2.2.1.2 2 _ rfl).2
  have e3 : cA = E.2.1.2.2 := Option.some.inj (e1.symm.trans e2)
  subst e3
  exact k q H1 locs ls hP1 hD1 hS1 hl9
theorem j_objInit (hg : Ok E nL g l0 cc own Ts R0) {a idx : Nat} (h1 : Cond.methodLink own idx Lib.objectInit ∈ Ts) (h2 : Cond.instanceMethod Lib.objectInit ∈ Ts) (h3 : Cond.code Lib.objectInit ⟨#[0xb1]⟩ 1 none ∈ Ts) (hd : decode cc pc = .ok (.invokespecial idx, 3)) (hfr : 1 ≤ R0.frames) (hlo : (st.map fun v => v.category).sum + 12 ≤ R0.locals) (k : J E nL g ws lv cells slots (pc + 3) st) : J E nL g ws lv cells slots pc (.ref a :: st) := by
  obtain ⟨p, l, e, R, s, m, args, below, meth, c, A, Q⟩ := g
  have hRR := hg.2.2.2.2.2.2.2.2.1
  subst hRR
  intro H locs ls hP hD hS hl9
  refine W.objInit hg.1 hg.2.1 hg.2.2.2.1 (hg.2.2.2.2.1 _ h1) (hg.2.2.2.2.1 _ h2) (hg.2.2.2.2.1 _ h3) rfl (by rw [hg.2.2.1]; exact hl9.1) rfl hd hfr (by show 2 * 0 + _ + 12 ≤ _; omega) ?_
  exact W.eq (g2 := F0 m (pc + 3) ls st) rfl (k H locs ls hP hD hS hl9)
theorem j_mmin (hg : Ok E nL g l0 cc own Ts R0) {index : Nat} {x y v : Int32} (h1 : Cond.methodLink own index Lib.Math.min.name ∈ Ts) (h2 : Cond.static Lib.Math.min.name ∈ Ts) (h3 : Cond.initialized "java/lang/Math" ∈ Ts) (h4 : Cond.code Lib.Math.min.name Lib.Math.min.code 2 (some .int) ∈ Ts) (hfr : 1 ≤ R0.frames) (hlo : (st.map fun v => v.category).sum + 13 ≤ R0.locals) (hc : cells ≤ R0.cells) (hs : slots ≤ R0.slots) (hv : (if y < x then y else x) = v) (hd : decode cc pc = .ok (.invokestatic index, 3)) (k : J E nL g ws lv cells slots (pc + 3) (.int v :: st)) : J E nL g ws lv cells slots pc (.int y :: .int x :: st) := by
  obtain ⟨p, l, e, R, s, m, args, below, meth, c, A, Q⟩ := g
  have hRR := hg.2.2.2.2.2.2.2.2.1
  subst hRR
  subst hv
  exact fun H locs ls hP hD hS hl9 => va_mmin hg.1 hg.2.1 (by rw [hg.2.2.1]; exact hl9.1.symm) hg.2.2.2.1 (hg.2.2.2.2.1 _ h1) (hg.2.2.2.2.1 _ h2) (hg.2.2.2.2.1 _ h3) (hg.2.2.2.2.1 _ h4) hfr hlo hc hs hd (k H locs ls hP hD hS hl9)
/-- System.arraycopy: the four words; the counts by numbers -/
def acW (Ts : List Cond) (own : String) (index : Nat) : Prop := Cond.methodLink own index arraycopyName ∈ Ts ∧ Cond.native arraycopyName ∈ Ts ∧ Cond.static arraycopyName ∈ Ts ∧ Cond.initialized "java/lang/System" ∈ Ts
theorem j_copyB (hg : Ok E nL g l0 cc own Ts R0) {index a0 a n0 n1 : Nat} {f h : Nat → Int32} {sp dp n : Int32} {ws' : va_W} (q0 q1 i j k0 : Nat) (hw4 : acW Ts own index) (ha0 : ws[q0]? = some (aB E a0 n0 f)) (ha1 : ws[q1]? = some (aB E a n1 h)) (hsp : sp = nI i) (hdp : dp = nI j) (hn : n = nI k0) (h4 : i + k0 ≤ n0) (h5 : j + k0 ≤ n1) (hn0 : n0 < 2147483648) (hn1 : n1 < 2147483648) (hfit : ∀ t, t < k0 → fits .byte (.int (f (i + t))) = true) (hfr : 1 ≤ R0.frames) (hlo : (st.map fun v => v.category).sum + (nativeFrameWords "java/lang/System" "arraycopy" 5 + 11) ≤ R0.locals) (hw : ws.set q1 (aB E a n1 (va_cpy f h i j k0)) = ws') (hd : decode cc pc = .ok (.invokestatic index, 3)) (k : J E nL g ws' lv cells slots (pc + 3) st) : J E nL g ws lv cells slots pc (.int n :: .int dp :: .ref a :: .int sp :: .ref a0 :: st) := by
  obtain ⟨p, l, e, R, s, m, args, below, meth, c, A, Q⟩ := g
  have hRR := hg.2.2.2.2.2.2.2.2.1
  subst hRR
  subst hw hsp hdp hn
  have e1 : (nI i).toNatClampNeg = i := nI_clamp (by omega)
  have e2 : (nI j).toNatClampNeg = j := nI_clamp (by omega)
  have e3 : (nI k0).toNatClampNeg = k0 := nI_clamp (by omega)
  exact fun H locs ls hP hD hS hl9 => va_copyi hg.1 hg.2.1 (by rw [hg.2.2.1]; exact hl9.1.symm) hg.2.2.2.1 (hg.2.2.2.2.1 _ hw4.1) (hg.2.2.2.2.1 _ hw4.2.1) (hg.2.2.2.2.1 _ hw4.2.2.1) (hg.2.2.2.2.1 _ hw4.2.2.2) hg.2.2.2.2.2.1 hP hD hS q0 q1 0 0 ha0 ha1 rfl rfl rfl (nI_pos (by omega)) (nI_pos (by omega)) (nI_pos (by omega)) (by rw [e1, e3]; exact h4) (by rw [e2, e3]; exact h5) (by rw [e1, e3]; exact hfit) hfr hlo hd (fun H1 locs1 hP1 hD1 hS1 => by rw [e1, e2, e3] at hP1 hD1; exact k H1 locs1 ls hP1 hD1 hS1 hl9)
theorem j_copyI (hg : Ok E nL g l0 cc own Ts R0) {index a0 a n0 n1 : Nat} {f h : Nat → Int32} {sp dp n : Int32} {ws' : va_W} (q0 q1 i j k0 : Nat) (hw4 : acW Ts own index) (ha0 : ws[q0]? = some (aI E a0 n0 f)) (ha1 : ws[q1]? = some (aI E a n1 h)) (hsp : sp = nI i) (hdp : dp = nI j) (hn : n = nI k0) (h4 : i + k0 ≤ n0) (h5 : j + k0 ≤ n1) (hn0 : n0 < 2147483648) (hn1 : n1 < 2147483648) (hfr : 1 ≤ R0.frames) (hlo : (st.map fun v => v.category).sum + (nativeFrameWords "java/lang/System" "arraycopy" 5 + 11) ≤ R0.locals) (hw : ws.set q1 (aI E a n1 (va_cpy f h i j k0)) = ws') (hd : decode cc pc = .ok (.invokestatic index, 3)) (k : J E nL g ws' lv cells slots (pc + 3) st) : J E nL g ws lv cells slots pc (.int n :: .int dp :: .ref a :: .int sp :: .ref a0 :: st) := by
  obtain ⟨p, l, e, R, s, m, args, below, meth, c, A, Q⟩ := g
  have hRR := hg.2.2.2.2.2.2.2.2.1
  subst hRR
  subst hw hsp hdp hn
  have e1 : (nI i).toNatClampNeg = i := nI_clamp (by omega)
  have e2 : (nI j).toNatClampNeg = j := nI_clamp (by omega)
  have e3 : (nI k0).toNatClampNeg = k0 := nI_clamp (by omega)
  exact fun H locs ls hP hD hS hl9 => va_copyi hg.1 hg.2.1 (by rw [hg.2.2.1]; exact hl9.1.symm) hg.2.2.2.1 (hg.2.2.2.2.1 _ hw4.1) (hg.2.2.2.2.1 _ hw4.2.1) (hg.2.2.2.2.1 _ hw4.2.2.1) (hg.2.2.2.2.1 _ hw4.2.2.2) hg.2.2.2.2.2.1 hP hD hS q0 q1 1 1 ha0 ha1 rfl rfl rfl (nI_pos (by omega)) (nI_pos (by omega)) (nI_pos (by omega)) (by rw [e1, e3]; exact h4) (by rw [e2, e3]; exact h5) (fun _ _ => rfl) hfr hlo hd (fun H1 locs1 hP1 hD1 hS1 => by rw [e1, e2, e3] at hP1 hD1; exact k H1 locs1 ls hP1 hD1 hS1 hl9)
theorem j_copyL (hg : Ok E nL g l0 cc own Ts R0) {index a0 a n0 n1 : Nat} {f h : Nat → Int64} {sp dp n : Int32} {ws' : va_W} (q0 q1 i j k0 : Nat) (hw4 : acW Ts own index) (ha0 : ws[q0]? = some (aL E a0 n0 f)) (ha1 : ws[q1]? = some (aL E a n1 h)) (hsp : sp = nI i) (hdp : dp = nI j) (hn : n = nI k0) (h4 : i + k0 ≤ n0) (h5 : j + k0 ≤ n1) (hn0 : n0 < 2147483648) (hn1 : n1 < 2147483648) (hfr : 1 ≤ R0.frames) (hlo : (st.map fun v => v.category).sum + (nativeFrameWords "java/lang/System" "arraycopy" 5 + 11) ≤ R0.locals) (hw : ws.set q1 (aL E a n1 (va_cpy f h i j k0)) = ws') (hd : decode cc pc = .ok (.invokestatic index, 3)) (k : J E nL g ws' lv cells slots (pc + 3) st) : J E nL g ws lv cells slots pc (.int n :: .int dp :: .ref a :: .int sp :: .ref a0 :: st) := by
  obtain ⟨p, l, e, R, s, m, args, below, meth, c, A, Q⟩ := g
  have hRR := hg.2.2.2.2.2.2.2.2.1
  subst hRR
  subst hw hsp hdp hn
  have e1 : (nI i).toNatClampNeg = i := nI_clamp (by omega)
  have e2 : (nI j).toNatClampNeg = j := nI_clamp (by omega)
  have e3 : (nI k0).toNatClampNeg = k0 := nI_clamp (by omega)
  exact fun H locs ls hP hD hS hl9 => va_copyl hg.1 hg.2.1 (by rw [hg.2.2.1]; exact hl9.1.symm) hg.2.2.2.1 (hg.2.2.2.2.1 _ hw4.1) (hg.2.2.2.2.1 _ hw4.2.1) (hg.2.2.2.2.1 _ hw4.2.2.1) (hg.2.2.2.2.1 _ hw4.2.2.2) hg.2.2.2.2.2.1 hP hD hS q0 q1 2 2 ha0 ha1 rfl rfl rfl (nI_pos (by omega)) (nI_pos (by omega)) (nI_pos (by omega)) (by rw [e1, e3]; exact h4) (by rw [e2, e3]; exact h5) (fun _ _ => rfl) hfr hlo hd (fun H1 locs1 hP1 hD1 hS1 => by rw [e1, e2, e3] at hP1 hD1; exact k H1 locs1 ls hP1 hD1 hS1 hl9)
-- returns
section RET
variable {w0 : va_W} {S : Type} {post : S → Prop} {r : S → Option Value} {w1 : S → va_W} {nm : String}
theorem j_iret {ret : FieldType} (hg : Ok E nL g l0 cc own Ts R0) (hR : Rt E g w0 S post r w1 R0 (some ret) nm) {v : Int32} (hnar : narrow ret (.int v) = .int v) (u : S) (hp : post u) (hr : r u = some (.int v)) (is : List Nat) (hw : is.map (fun i => ws[i]?) = (w1 u).map some) (hn : va_nd is = true) (hc : cells ≤ R0.cells) (hs : slots ≤ R0.slots) (hd : decode cc pc = .ok (.ireturn, 1)) : J E nL g ws lv cells slots pc [.int v] := by
  obtain ⟨p, l, e, R, s, m, args, below, meth, c, A, Q⟩ := g
  intro H locs ls hP hD hS hl9
  obtain ⟨rfl, rfl, hrt, -⟩ := hR
  have hlocks : meth.locks = false := hg.2.2.2.2.2.2.2.2.2.1
  refine W.widen hc hs ?_
  exact W.zret hg.1 hg.2.1 hrt hnar (fun t ht hW => ⟨⟨u, by rw [hr], hp, by rw [ht]; exact hP.sub is (fm_of_map hw), va_K.moved hW.alike hg.2.2.2.2.2.1, hD.sub is hn hw⟩, hS.F ht⟩) hS.2.2 hd
theorem j_lret (hg : Ok E nL g l0 cc own Ts R0) (hR : Rt E g w0 S post r w1 R0 (some .long) nm) {v : Int64} (u : S) (hp : post u) (hr : r u = some (.long v)) (is : List Nat) (hw : is.map (fun i => ws[i]?) = (w1 u).map some) (hn : va_nd is = true) (hc : cells ≤ R0.cells) (hs : slots ≤ R0.slots) (hd : decode cc pc = .ok (.lreturn, 1)) : J E nL g ws lv cells slots pc [.long v] := by
  obtain ⟨p, l, e, R, s, m, args, below, meth, c, A, Q⟩ := g
  intro H locs ls hP hD hS hl9
  obtain ⟨rfl, rfl, hrt, -⟩ := hR
  have hlocks : meth.locks = false := hg.2.2.2.2.2.2.2.2.2.1
  refine W.widen hc hs ?_
  exact W.lret hg.1 hg.2.1 hrt (fun t ht hW => ⟨⟨u, by rw [hr], hp, by rw [ht]; exact hP.sub is (fm_of_map hw), va_K.moved hW.alike hg.2.2.2.2.2.1, hD.sub is hn hw⟩, hS.F ht⟩) hS.2.2 hd
theorem j_vret (hg : Ok E nL g l0 cc own Ts R0) (hR : Rt E g w0 S post r w1 R0 none nm) (u : S) (hp : post u) (hr : r u = none) (is : List Nat) (hw : is.map (fun i => ws[i]?) = (w1 u).map some) (hn : va_nd is = true) (hc : cells ≤ R0.cells) (hs : slots ≤ R0.slots) (hd : decode cc pc = .ok (.return_, 1)) : J E nL g ws lv cells slots pc [] := by
  obtain ⟨p, l, e, R, s, m, args, below, meth, c, A, Q⟩ := g
  intro H locs ls hP hD hS hl9
  obtain ⟨rfl, rfl, hrt, -⟩ := hR
  have hlocks : meth.locks = false := hg.2.2.2.2.2.2.2.2.2.1
  refine W.widen hc hs ?_
  exact W.vret hg.1 hg.2.1 hrt (fun t ht hW => ⟨⟨u, by rw [hr], hp, by rw [ht]; exact hP.sub is (fm_of_map hw), va_K.moved hW.alike hg.2.2.2.2.2.1, hD.sub is hn hw⟩, hS.F ht⟩) hS.2.2 hd
theorem j_aret {rt : FieldType} (hg : Ok E nL g l0 cc own Ts R0) (hR : Rt E g w0 S post r w1 R0 (some rt) nm) (hrt2 : (∃ n, rt = .object n) ∨ ∃ t, rt = .array t) {a : Nat} (u : S) (hp : post u) (hr : r u = some (.ref a)) (is : List Nat) (hw : is.map (fun i => ws[i]?) = (w1 u).map some) (hn : va_nd is = true) (hc : cells ≤ R0.cells) (hs : slots ≤ R0.slots) (hd : decode cc pc = .ok (.areturn, 1)) : J E nL g ws lv cells slots pc [.ref a] := by
  obtain ⟨p, l, e, R, s, m, args, below, meth, c, A, Q⟩ := g
  intro H locs ls hP hD hS hl9
  obtain ⟨rfl, rfl, hrt, -⟩ := hR
  have hlocks : meth.locks = false := hg.2.2.2.2.2.2.2.2.2.1
  refine W.widen hc hs ?_
  exact W.aret hg.1 hg.2.1 hrt hrt2 (Or.inr ⟨a, rfl⟩) (fun t ht hW => ⟨⟨u, by rw [hr], hp, by rw [ht]; exact hP.sub is (fm_of_map hw), va_K.moved hW.alike hg.2.2.2.2.2.1, hD.sub is hn hw⟩, hS.F ht⟩) hS.2.2 hd
end RET
-- calls
section CALL
variable {y : MethodName} {Ws : List Cond} {rm : Room} {as : List Value} {w0 : va_W} {S : Type} {post : S → Prop} {r : S → Option Value} {w1 : S → va_W}
/-- what a callee finds: its cells cut out of ours -/
theorem pcM_at {p : Program} {l : Launch} {e : Env} {R : Room} {s : State} {m : MethodId} {args : Array Value} {below : List Frame} {meth : Method} {c : Code} {A : Nat → Prop} {Q : State → Prop} {H : Heap} {locs : List Loc}
    (hg : Ok E nL (p, l, e, R, s, m, args, below, meth, c, A, Q) l0 cc own Ts R0) (isC : List Nat) (hC : isC.map (fun i => ws[i]?) = w0.map some) (hnC : va_nd isC = true) (hP : va_P E.1 vwCl ws H) (hD : va_D A ws) (hS : va_S A s.heap H locs) :
    ∀ U : State, U.heap = H → s.WarmedH U.vm → PcM E as w0 H.size as.toArray U := by
  intro U hU hW
  have hF := va_free (wc := w0) hD hS hg.2.2.2.2.2.2.1 isC hC
  refine ⟨rfl, by rw [hU], by rw [hU]; exact hP.sub isC (fm_of_map hC), va_K.moved hW.alike hg.2.2.2.2.2.1, (hD.sub isC hnC hC).weaken (fun _ _ _ _ => trivial), ?_, hg.2.2.2.2.2.2.2.2.2.2.2.warm hW⟩
  rw [hU]
  exact ((hg.2.2.2.2.2.2.2.1.kept (fun a h1 h2 => hS.2.1 a h1 h2)).moved hW.alike).narrow hF
theorem j_run {st0 rest : List Value} {wr : va_W} (hg : Ok E nL g l0 cc own Ts R0) (isC isR : List Nat) (hC : isC.map (fun i => ws[i]?) = w0.map some) (hR : isR.map (fun i => ws[i]?) = wr.map some) (hn : va_nd isR = true) (hdis : ∀ i ∈ isR, i ∉ isC)
    (run : ∀ p l e R s m args below meth c A Q H locs ls, g = (p, l, e, R, s, m, args, below, meth, c, A, Q) → va_P E.1 vwCl ws H → va_D A ws → va_S A s.heap H locs → lv_has ls nL lv → va_Run p l e R s m args below meth c H locs cells slots rm.cells rm.slots (F0 m pc ls st0) rest (QcM E w0 H.size S post r w1 as.toArray) (va_A w0 H.size))
    (kk : ∀ u : S, post u → J E nL g (wr ++ w1 u) lv (cells + rm.cells) (slots + rm.slots) (pc + 3) ((r u).toList ++ rest)) : J E nL g ws lv cells slots pc st0 := by
  obtain ⟨p, l, e, R, s, m, args, below, meth, c, A, Q⟩ := g
  intro H locs ls hP hD hS hl T hT X
  obtain ⟨v, st₀, t, T', L, h0, X', hL, e1, e2, ⟨⟨u, hv, hp, hPu, hKu, hDu⟩, hz, hk⟩, stp⟩ := run p l e R s m args below meth c A Q H locs ls rfl hP hD hS hl T hT X
  have hv' : v = r u := Outcome.returned.inj hv
  subst hv'
  rw [h0] at hz hk
  have hF := va_free (wc := w0) hD hS hg.2.2.2.2.2.2.1 isC hC
  obtain ⟨hP1, hD1⟩ := va_join (wr := wr) (w1 := w1 u) (H1 := T'.heap) hP hD isC isR hC hR hn hdis (fun q h1 h2 => by rw [e1]; exact hk q h1 h2) hF (by rw [e1]; exact hPu) hDu
  obtain ⟨t2, a1, b1⟩ := kk u hp T'.heap (locs ++ L) ls hP1 hD1 ⟨Nat.le_trans hS.1 (by rw [e1]; exact hz), fun q h1 h2 => by rw [e1, hk q (Nat.lt_of_lt_of_le h1 hS.1) (fun z => h2 (hF q z))]; exact hS.2.1 q h1 h2, fun q hq => by
      rcases List.mem_append.mp hq with h | h
      · exact hS.2.2 q h
      · exact hF _ (hL q h)⟩ hl T' rfl X'
  exact ⟨t2, stp t2 a1, b1⟩
theorem j_callV {index maxL n : Nat} {bytes : ByteArray} {ret : Option FieldType} {Ws' : List Cond} {As rest : List Value} {st0 : List Value} {wr : va_W} (hg : Ok E nL g l0 cc own Ts R0) {C : String} {T : u_T} {N b ci : Nat} {fs : List Value} (q0 : Nat) (he : w0[q0]? = some (ob b ci fs)) (hc : vwCl[ci]? = some (C, T, N)) (hM : MC E l0 y Ws rm (.ref b :: As) w0 S post r w1) (hT : GoodIn Ts (wsV own index C y Ws)) (hw : Ws = Cond.code y bytes maxL ret :: Ws') (hdd : y.cls = C ∧ y.cls ≠ "java/lang/invoke/MethodHandle" ∧ y.cls ≠ "java/lang/invoke/VarHandle" ∧ (parseMethodDescriptor y.desc).map (fun d => d.parameters.length) = some n) (hR : rm.frames + 1 ≤ R0.frames ∧ 8 + (maxL + 11) + rm.locals ≤ R0.locals) (hn : As.length = n) (hst : st0 = As.reverse ++ .ref b :: rest) (hcat : (rest.map fun v => v.category).sum ≤ 8) (hf : cells + rm.cells ≤ R0.cells ∧ slots + rm.slots ≤ R0.slots) (isC isR : List Nat) (hC : isC.map (fun i => ws[i]?) = w0.map some) (hRR : isR.map (fun i => ws[i]?) = wr.map some) (hnC : va_nd isC = true) (hnR : va_nd isR = true) (hdis : ∀ i ∈ isR, i ∉ isC) (hd : decode cc pc = .ok (.invokevirtual index, 3)) (kk : ∀ u : S, post u → J E nL g (wr ++ w1 u) lv (cells + rm.cells) (slots + rm.slots) (pc + 3) ((r u).toList ++ rest)) : J E nL g ws lv cells slots pc st0 := by
  refine j_run (as := .ref b :: As) (rm := rm) hg isC isR hC hRR hnR hdis ?_ kk
  intro p l e R s m args below meth c A Q H locs ls hgg hP hD hS hl
  subst hgg
  have hR1 : R = R0 := hg.2.2.2.2.2.2.2.2.1
  have hL1 : l = l0 := hg.2.2.2.2.2.2.2.2.2.2.1
  subst hR1 hL1
  have hts : ∀ w ∈ Ts, w.before args s = true := hg.2.2.2.2.1
  exact va_runV (As := As) (rest := rest) ⟨hg.1, hg.2.1, hg.2.2.1, hg.2.2.2.1, hts⟩ (hM H.size) (cwV n hts hT hw rfl rfl hdd hR) ⟨pcM_blind, va_recv hg.2.2.2.2.2.1 (hP.sub isC (fm_of_map hC)) hc he, pcM_at hg isC hC hnC hP hD hS⟩ rfl hn hl.1 hst (by show 2 * 0 + _ ≤ 8; omega) hd hf
theorem j_callS {index maxL n : Nat} {bytes : ByteArray} {ret : Option FieldType} {Ws' : List Cond} {As rest : List Value} {st0 : List Value} {wr : va_W} (hg : Ok E nL g l0 cc own Ts R0) (hM : MC E l0 y Ws rm (As) w0 S post r w1) (hT : GoodIn Ts (wsS own index y Ws)) (hw : Ws = Cond.code y bytes maxL ret :: Ws') (hdd : y.cls = own ∧ y.cls ≠ "java/lang/invoke/MethodHandle" ∧ y.cls ≠ "java/lang/invoke/VarHandle" ∧ (parseMethodDescriptor y.desc).map (fun d => d.parameters.length) = some n) (hR : rm.frames + 1 ≤ R0.frames ∧ 8 + (maxL + 11) + rm.locals ≤ R0.locals) (hn : As.length = n) (hst : st0 = As.reverse ++ rest) (hcat : (rest.map fun v => v.category).sum ≤ 8) (hf : cells + rm.cells ≤ R0.cells ∧ slots + rm.slots ≤ R0.slots) (isC isR : List Nat) (hC : isC.map (fun i => ws[i]?) = w0.map some) (hRR : isR.map (fun i => ws[i]?) = wr.map some) (hnC : va_nd isC = true) (hnR : va_nd isR = true) (hdis : ∀ i ∈ isR, i ∉ isC) (hd : decode cc pc = .ok (.invokestatic index, 3)) (kk : ∀ u : S, post u → J E nL g (wr ++ w1 u) lv (cells + rm.cells) (slots + rm.slots) (pc + 3) ((r u).toList ++ rest)) : J E nL g ws lv cells slots pc st0 := by
  refine j_run (as := As) (rm := rm) hg isC isR hC hRR hnR hdis ?_ kk
  intro p l e R s m args below meth c A Q H locs ls hgg hP hD hS hl
  subst hgg
  have hR1 : R = R0 := hg.2.2.2.2.2.2.2.2.1
  have hL1 : l = l0 := hg.2.2.2.2.2.2.2.2.2.2.1
  subst hR1 hL1
  have hts : ∀ w ∈ Ts, w.before args s = true := hg.2.2.2.2.1
  exact va_runS (As := As) (rest := rest) ⟨hg.1, hg.2.1, hg.2.2.1, hg.2.2.2.1, hts⟩ (hM H.size) (cwS n hts hT hw rfl rfl hdd hR) ⟨pcM_blind, pcM_at hg isC hC hnC hP hD hS⟩ rfl hn hl.1 hst (by show 2 * 0 + _ ≤ 8; omega) hd hf
theorem j_callX {index maxL n : Nat} {bytes : ByteArray} {ret : Option FieldType} {Ws' : List Cond} {As rest : List Value} {st0 : List Value} {wr : va_W} (hg : Ok E nL g l0 cc own Ts R0) (hM : MC E l0 y Ws rm (As) w0 S post r w1) (hT : GoodIn Ts (va_wsS own index y Ws)) (hw : Ws = Cond.code y bytes maxL ret :: Ws') (hdd : y.cls ≠ "java/lang/invoke/MethodHandle" ∧ y.cls ≠ "java/lang/invoke/VarHandle" ∧ (parseMethodDescriptor y.desc).map (fun d => d.parameters.length) = some n) (hR : rm.frames + 1 ≤ R0.frames ∧ 8 + (maxL + 11) + rm.locals ≤ R0.locals) (hn : As.length = n) (hst : st0 = As.reverse ++ rest) (hcat : (rest.map fun v => v.category).sum ≤ 8) (hf : cells + rm.cells ≤ R0.cells ∧ slots + rm.slots ≤ R0.slots) (isC isR : List Nat) (hC : isC.map (fun i => ws[i]?) = w0.map some) (hRR : isR.map (fun i => ws[i]?) = wr.map some) (hnC : va_nd isC = true) (hnR : va_nd isR = true) (hdis : ∀ i ∈ isR, i ∉ isC) (hd : decode cc pc = .ok (.invokestatic index, 3)) (kk : ∀ u : S, post u → J E nL g (wr ++ w1 u) lv (cells + rm.cells) (slots + rm.slots) (pc + 3) ((r u).toList ++ rest)) : J E nL g ws lv cells slots pc st0 := by
  refine j_run (as := As) (rm := rm) hg isC isR hC hRR hnR hdis ?_ kk
  intro p l e R s m args below meth c A Q H locs ls hgg hP hD hS hl
  subst hgg
  have hR1 : R = R0 := hg.2.2.2.2.2.2.2.2.1
  have hL1 : l = l0 := hg.2.2.2.2.2.2.2.2.2.2.1
  subst hR1 hL1
  have hts : ∀ w ∈ Ts, w.before args s = true := hg.2.2.2.2.1
  exact va_runS (As := As) (rest := rest) ⟨hg.1, hg.2.1, hg.2.2.1, hg.2.2.2.1, hts⟩ (hM H.size) (va_cwS n hts hT hw rfl rfl hdd hR) ⟨pcM_blind, pcM_at hg isC hC hnC hP hD hS⟩ rfl hn hl.1 hst (by show 2 * 0 + _ ≤ 8; omega) hd hf
theorem j_callI {index maxL n : Nat} {bytes : ByteArray} {ret : Option FieldType} {Ws' : List Cond} {As rest : List Value} {st0 : List Value} {wr : va_W} (hg : Ok E nL g l0 cc own Ts R0) {b : Nat} (hM : MC E l0 y Ws rm (.ref b :: As) w0 S post r w1) (hG : GoodIn Ts Ws) (hw : Ws = Cond.code y bytes maxL none :: Ws') (hini : Cond.initialized y.cls ∈ Ts) (hlk : Cond.methodLink own index y ∈ Ts) (hinm : Cond.instanceMethod y ∈ Ts) (hy1 : y.name = "<init>") (hdd : y.cls ≠ "java/lang/invoke/MethodHandle" ∧ y.cls ≠ "java/lang/invoke/VarHandle" ∧ (parseMethodDescriptor y.desc).map (fun d => d.parameters.length) = some n) (hR : rm.frames + 1 ≤ R0.frames ∧ 8 + (maxL + 11) + rm.locals ≤ R0.locals) (hn : As.length = n) (hst : st0 = As.reverse ++ .ref b :: rest) (hcat : (rest.map fun v => v.category).sum ≤ 8) (hf : cells + rm.cells ≤ R0.cells ∧ slots + rm.slots ≤ R0.slots) (isC isR : List Nat) (hC : isC.map (fun i => ws[i]?) = w0.map some) (hRR : isR.map (fun i => ws[i]?) = wr.map some) (hnC : va_nd isC = true) (hnR : va_nd isR = true) (hdis : ∀ i ∈ isR, i ∉ isC) (hd : decode cc pc = .ok (.invokespecial index, 3)) (kk : ∀ u : S, post u → J E nL g (wr ++ w1 u) lv (cells + rm.cells) (slots + rm.slots) (pc + 3) ((r u).toList ++ rest)) : J E nL g ws lv cells slots pc st0 := by
  refine j_run (as := .ref b :: As) (rm := rm) hg isC isR hC hRR hnR hdis ?_ kk
  intro p l e R s m args below meth c A Q H locs ls hgg hP hD hS hl
  subst hgg
  have hR1 : R = R0 := hg.2.2.2.2.2.2.2.2.1
  have hL1 : l = l0 := hg.2.2.2.2.2.2.2.2.2.2.1
  subst hR1 hL1
  have hts : ∀ w ∈ Ts, w.before args s = true := hg.2.2.2.2.1
  exact va_runI (As := As) (rest := rest) ⟨hg.1, hg.2.1, hg.2.2.1, hg.2.2.2.1, hts⟩ (hM H.size) (cwI n hts hG hw rfl rfl (hts _ hini) (hts _ hlk) (hts _ hinm) hy1 hdd hR) ⟨pcM_blind, pcM_at hg isC hC hnC hP hD hS⟩ rfl hn hl.1 hst (by show 2 * 0 + _ ≤ 8; omega) hd hf
theorem j_callSN {index maxL n : Nat} {bytes : ByteArray} {ret : Option FieldType} {Ws' : List Cond} {As rest : List Value} {st0 : List Value} {wr : va_W} (hg : Ok E nL g l0 cc own Ts R0) (hM : MC E l0 y Ws rm (As) w0 S post r w1) {host : String} (hG : GoodIn Ts Ws) (hw : Ws = Cond.code y bytes maxL ret :: Ws') (hini : Cond.initialized y.cls ∈ Ts) (hlk : (own, index, y, host) ∈ nW) (hsta : Cond.static y ∈ Ts) (hdd : y.cls ≠ "java/lang/invoke/MethodHandle" ∧ y.cls ≠ "java/lang/invoke/VarHandle" ∧ (parseMethodDescriptor y.desc).map (fun d => d.parameters.length) = some n) (hR : rm.frames + 1 ≤ R0.frames ∧ 8 + (maxL + 11) + rm.locals ≤ R0.locals) (hn : As.length = n) (hst : st0 = As.reverse ++ rest) (hcat : (rest.map fun v => v.category).sum ≤ 8) (hf : cells + rm.cells ≤ R0.cells ∧ slots + rm.slots ≤ R0.slots) (isC isR : List Nat) (hC : isC.map (fun i => ws[i]?) = w0.map some) (hRR : isR.map (fun i => ws[i]?) = wr.map some) (hnC : va_nd isC = true) (hnR : va_nd isR = true) (hdis : ∀ i ∈ isR, i ∉ isC) (hd : decode cc pc = .ok (.invokestatic index, 3)) (kk : ∀ u : S, post u → J E nL g (wr ++ w1 u) lv (cells + rm.cells) (slots + rm.slots) (pc + 3) ((r u).toList ++ rest)) : J E nL g ws lv cells slots pc st0 := by
  refine j_run (as := As) (rm := rm) hg isC isR hC hRR hnR hdis ?_ kk
  intro p l e R s m args below meth c A Q H locs ls hgg hP hD hS hl
  subst hgg
  have hR1 : R = R0 := hg.2.2.2.2.2.2.2.2.1
  have hL1 : l = l0 := hg.2.2.2.2.2.2.2.2.2.2.1
  subst hR1 hL1
  have hts : ∀ w ∈ Ts, w.before args s = true := hg.2.2.2.2.1
  exact va_runSN (As := As) (rest := rest) ⟨hg.1, hg.2.1, hg.2.2.1, hg.2.2.2.1, hts⟩ (hM H.size) (⟨va_cnB n hts hG hw rfl rfl (hg.2.2.2.2.2.2.2.2.2.2.2 _ hlk) (hts _ hini) hdd hR, hts _ hsta, trivial⟩) ⟨pcM_blind, pcM_at hg isC hC hnC hP hD hS⟩ rfl hn hl.1 hst (by show 2 * 0 + _ ≤ 8; omega) hd hf
theorem j_callVN {index maxL n : Nat} {bytes : ByteArray} {ret : Option FieldType} {Ws' : List Cond} {As rest : List Value} {st0 : List Value} {wr : va_W} (hg : Ok E nL g l0 cc own Ts R0) {C : String} {T : u_T} {N b ci : Nat} {fs : List Value} (q0 : Nat) (he : w0[q0]? = some (ob b ci fs)) (hc : vwCl[ci]? = some (C, T, N)) (hM : MC E l0 y Ws rm (.ref b :: As) w0 S post r w1) {host : String} (hG : GoodIn Ts Ws) (hw : Ws = Cond.code y bytes maxL ret :: Ws') (hini : Cond.initialized y.cls ∈ Ts) (hlk : (own, index, y, host) ∈ nW) (hinm : Cond.instanceMethod y ∈ Ts) (hsel : Cond.selects C y y ∈ Ts) (hdd : y.cls ≠ "java/lang/invoke/MethodHandle" ∧ y.cls ≠ "java/lang/invoke/VarHandle" ∧ (parseMethodDescriptor y.desc).map (fun d => d.parameters.length) = some n) (hR : rm.frames + 1 ≤ R0.frames ∧ 8 + (maxL + 11) + rm.locals ≤ R0.locals) (hn : As.length = n) (hst : st0 = As.reverse ++ .ref b :: rest) (hcat : (rest.map fun v => v.category).sum ≤ 8) (hf : cells + rm.cells ≤ R0.cells ∧ slots + rm.slots ≤ R0.slots) (isC isR : List Nat) (hC : isC.map (fun i => ws[i]?) = w0.map some) (hRR : isR.map (fun i => ws[i]?) = wr.map some) (hnC : va_nd isC = true) (hnR : va_nd isR = true) (hdis : ∀ i ∈ isR, i ∉ isC) (hd : decode cc pc = .ok (.invokevirtual index, 3)) (kk : ∀ u : S, post u → J E nL g (wr ++ w1 u) lv (cells + rm.cells) (slots + rm.slots) (pc + 3) ((r u).toList ++ rest)) : J E nL g ws lv cells slots pc st0 := by
  refine j_run (as := .ref b :: As) (rm := rm) hg isC isR hC hRR hnR hdis ?_ kk
  intro p l e R s m args below meth c A Q H locs ls hgg hP hD hS hl
  subst hgg
  have hR1 : R = R0 := hg.2.2.2.2.2.2.2.2.1
  have hL1 : l = l0 := hg.2.2.2.2.2.2.2.2.2.2.1
  subst hR1 hL1
  have hts : ∀ w ∈ Ts, w.before args s = true := hg.2.2.2.2.1
  exact va_runVN (As := As) (rest := rest) ⟨hg.1, hg.2.1, hg.2.2.1, hg.2.2.2.1, hts⟩ (hM H.size) (⟨va_cnB n hts hG hw rfl rfl (hg.2.2.2.2.2.2.2.2.2.2.2 _ hlk) (hts _ hini) hdd hR, hts _ hinm, hts _ hsel⟩) ⟨pcM_blind, va_recv hg.2.2.2.2.2.1 (hP.sub isC (fm_of_map hC)) hc he, pcM_at hg isC hC hnC hP hD hS⟩ rfl hn hl.1 hst (by show 2 * 0 + _ ≤ 8; omega) hd hf
theorem j_callIN {index maxL n : Nat} {bytes : ByteArray} {ret : Option FieldType} {Ws' : List Cond} {As rest : List Value} {st0 : List Value} {wr : va_W} (hg : Ok E nL g l0 cc own Ts R0) {b : Nat} (hM : MC E l0 y Ws rm (.ref b :: As) w0 S post r w1) {host : String} (hG : GoodIn Ts Ws) (hw : Ws = Cond.code y bytes maxL none :: Ws') (hini : Cond.initialized y.cls ∈ Ts) (hlk : (own, index, y, host) ∈ nW) (hy1 : y.name = "<init>") (hinm : Cond.instanceMethod y ∈ Ts) (hdd : y.cls ≠ "java/lang/invoke/MethodHandle" ∧ y.cls ≠ "java/lang/invoke/VarHandle" ∧ (parseMethodDescriptor y.desc).map (fun d => d.parameters.length) = some n) (hR : rm.frames + 1 ≤ R0.frames ∧ 8 + (maxL + 11) + rm.locals ≤ R0.locals) (hn : As.length = n) (hst : st0 = As.reverse ++ .ref b :: rest) (hcat : (rest.map fun v => v.category).sum ≤ 8) (hf : cells + rm.cells ≤ R0.cells ∧ slots + rm.slots ≤ R0.slots) (isC isR : List Nat) (hC : isC.map (fun i => ws[i]?) = w0.map some) (hRR : isR.map (fun i => ws[i]?) = wr.map some) (hnC : va_nd isC = true) (hnR : va_nd isR = true) (hdis : ∀ i ∈ isR, i ∉ isC) (hd : decode cc pc = .ok (.invokespecial index, 3)) (kk : ∀ u : S, post u → J E nL g (wr ++ w1 u) lv (cells + rm.cells) (slots + rm.slots) (pc + 3) ((r u).toList ++ rest)) : J E nL g ws lv cells slots pc st0 := by
  refine j_run (as := .ref b :: As) (rm := rm) hg isC isR hC hRR hnR hdis ?_ kk
  intro p l e R s m args below meth c A Q H locs ls hgg hP hD hS hl
  subst hgg
  have hR1 : R = R0 := hg.2.2.2.2.2.2.2.2.1
  have hL1 : l = l0 := hg.2.2.2.2.2.2.2.2.2.2.1
  subst hR1 hL1
  have hts : ∀ w ∈ Ts, w.before args s = true := hg.2.2.2.2.1
  exact va_runIN (As := As) (rest := rest) ⟨hg.1, hg.2.1, hg.2.2.1, hg.2.2.2.1, hts⟩ (hM H.size) (⟨va_cnB n hts hG hw rfl rfl (hg.2.2.2.2.2.2.2.2.2.2.2 _ hlk) (hts _ hini) hdd hR, hy1, hts _ hinm⟩) ⟨pcM_blind, pcM_at hg isC hC hnC hP hD hS⟩ rfl hn hl.1 hst (by show 2 * 0 + _ ≤ 8; omega) hd hf
end CALL
end JR
