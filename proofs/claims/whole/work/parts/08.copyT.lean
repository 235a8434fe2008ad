/-! System.arraycopy out of a static array of ints (never written), into a row of ours. -/
section CT
variable {E : Ev} {nL : Nat} {g : Cx} {l0 : Launch} {cc : ByteArray} {own : String} {Ts : List Cond} {R0 : Room} {ws : va_W} {lv : List (Nat × Value)} {cells slots pc : Nat} {st : List Value}
theorem j_copyT (hg : Ok E nL g l0 cc own Ts R0) {C n d : String} {index a N n1 : Nat} {f h : Nat → Int32} {sp dp k : Int32} {ws' : va_W} (z q1 i j k0 : Nat) (hw4 : acW Ts own index) (hz : sT[z]? = some (C, n, d, .int, N, fun j => .int (f j))) (ha1 : ws[q1]? = some (aI E a n1 h)) (hsp : sp = nI i) (hdp : dp = nI j) (hk : k = nI k0) (h4 : i + k0 ≤ N) (h5 : j + k0 ≤ n1) (hN : N < 2147483648) (hn1 : n1 < 2147483648) (hfr : 1 ≤ R0.frames) (hlo : (st.map fun v => v.category).sum + (nativeFrameWords "java/lang/System" "arraycopy" 5 + 11) ≤ R0.locals) (hw : ws.set q1 (aI E a n1 (va_cpy f h i j k0)) = ws') (hd : decode cc pc = .ok (.invokestatic index, 3)) (kk : J E nL g ws' lv cells slots (pc + 3) st) : J E nL g ws lv cells slots pc (.int k :: .int dp :: .ref a :: .int sp :: .ref (E.2.2 z) :: st) := by
  obtain ⟨p, l, e, R, s, m, args, below, meth, c, A, Q⟩ := g
  have hRR := hg.2.2.2.2.2.2.2.2.1
  subst hRR
  subst hw hsp hdp hk
  intro H locs ls hP hD hS hl T hT X
  obtain ⟨cell, t1, t2, t3, t4, t5, t6, t7⟩ := (hg.2.2.2.2.2.2.2.1 z _ hz).2
  have t4 : N ≤ cell.slots.size := t4
  have t6 : ∀ j : Nat, j < N → cell.slots[j]? = some (.int (f j)) := t6
  have hlt : E.2.2 z < s.heap.size := (Array.getElem?_eq_some_iff.mp t1).1
  have hc0 : H[E.2.2 z]? = some cell := by rw [hS.2.1 _ hlt t7]; exact t1
  have hc1 : H[a]? = some (vp_cell E.2.1.2.1 (n1, .inl h)) := hP q1 _ ha1
  obtain ⟨t8, kA, hkA, cA, hkkA⟩ := t2
  obtain ⟨-, kB, hkB, cB, hkkB⟩ := (hg.2.2.2.2.2.1.2 1 (E.2.1.2.1, .int) rfl).1 n1 (fun j => .int (h j))
  have e1 : (nI i).toNatClampNeg = i := nI_clamp (by omega)
  have e2 : (nI j).toNatClampNeg = j := nI_clamp (by omega)
  have e3 : (nI k0).toNatClampNeg = k0 := nI_clamp (by omega)
  have hts := hg.2.2.2.2.1
  obtain ⟨vm', X', step⟩ := X.arraycopy hg.1 hg.2.2.2.1 (hts _ hw4.1) (hts _ hw4.2.1) (hts _ hw4.2.2.1) (hts _ hw4.2.2.2) (src := E.2.2 z) (dst := a) (cs := cell) (cd := vp_cell E.2.1.2.1 (n1, .inl h)) (srcPos := nI i) (destPos := nI j) (n := nI k0) (by rw [hT]; exact hc0) (by rw [hT]; exact hc1)
    t8 (fun _ q => by cases q) t3 (fun q => by cases q) hkA hkB hkkA hkkB (by simp [refKind]) (nI_pos (by omega)) (nI_pos (by omega)) (nI_pos (by omega))
    (by rw [nI_toInt (by omega), nI_toInt (by omega)]; omega)
    (by rw [nI_toInt (by omega), nI_toInt (by omega)]; show ¬ _ > ((arrV E.2.1.2.1 n1 (fun j => .int (h j))).slots.size : Int); rw [arrV_size]; omega)
    (fun vm₁ _ r hr => by
      rw [e3] at hr
      have er : cell.slots.getD ((nI i).toNatClampNeg + r) .null = .int (f (i + r)) := by
        rw [e1, Array.getD_eq_getD_getElem?, t6 _ (by omega)]
        rfl
      rw [er]
      exact ⟨rfl, trivial⟩)
    (g := F0 m pc ls (.int (nI k0) :: .int (nI j) :: .ref a :: .int (nI i) :: .ref (E.2.2 z) :: st)) rfl (by rw [hg.2.2.1]; exact hl.1) (rest := st) rfl (by rw [hg.2.1]; exact hd) hfr (by show 2 * 0 + _ + _ ≤ _; omega)
  have ec : copied cell (vp_cell E.2.1.2.1 (n1, .inl h)) (nI i) (nI j) (nI k0) = vp_cell E.2.1.2.1 (n1, .inl (va_cpy f h i j k0)) := by
    have := va_copiedX (n0 := N) (sp := (nI i).toNatClampNeg) (dp := (nI j).toNatClampNeg) (n := (nI k0).toNatClampNeg) (n1 := n1) (fun z : Int32 => Value.int z) cell E.2.1.2.1 f h t6 (by rw [e1, e3]; exact h4)
    rw [e1, e2, e3] at this
    refine Eq.trans ?_ this
    unfold copied
    rw [e1, e2, e3]
    rfl
  rw [ec] at X' step
  have hla : a < H.size := (Array.getElem?_eq_some_iff.mp hc1).1
  have hheap : ((T.setVm vm').setCell a (vp_cell E.2.1.2.1 (n1, .inl (va_cpy f h i j k0)))).heap = H.setIfInBounds a (vp_cell E.2.1.2.1 (n1, .inl (va_cpy f h i j k0))) := by rw [← hT]; rfl
  have oq : ∀ q : Nat, q ≠ a → (H.setIfInBounds a (vp_cell E.2.1.2.1 (n1, .inl (va_cpy f h i j k0))))[q]? = H[q]? := fun q hq => by simp [Array.getElem?_setIfInBounds, Ne.symm hq]
  obtain ⟨t, a1, b1⟩ := kk _ _ ls (hP.set hD ha1 (show (H.setIfInBounds a _)[a]? = some _ by simp [Array.getElem?_setIfInBounds, hla]) oq) (hD.set ha1) ⟨by simp; exact hS.1, fun q g1 g2 => by
      rw [oq q (fun e => g2 (by rw [e]; exact hD.2 q1 _ ha1))]
      exact hS.2.1 q g1 g2, fun q hq => by
      rcases List.mem_append.mp hq with h | h
      · exact hS.2.2 q h
      · obtain ⟨z, -, hz⟩ := List.mem_map.mp h
        rw [← hz]
        exact hD.2 q1 _ ha1⟩ hl _ hheap X'
  exact ⟨t, step t a1, b1⟩
end CT
