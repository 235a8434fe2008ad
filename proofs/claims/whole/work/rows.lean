section
-- ===== PART A: goes FIRST, ahead of the names: the tables' words, and 'selects' of the private methods out of them =====
/-- a private method of a class that the tables say can be made, by its rows of tables_1 -/
def lw_okq (q : MethodName × Nat) : Prop := (q.1.cls ≠ "java/lang/invoke/MethodHandle" ∧ q.1.cls ≠ "java/lang/invoke/VarHandle") ∧ Cond.instantiable q.1.cls q.2 ∈ tables_1 ∧ Cond.privateMethod q.1 ∈ tables_1 ∧ Cond.instanceMethod q.1 ∈ tables_1
theorem lw_p0 : lw_okq (⟨"StreamSeal", "tapeReaches", "(I)Z"⟩, 12) := ⟨⟨by decide +kernel, by decide +kernel⟩, (List.mem_append_left _ (List.mem_of_getElem? (l := tables_1_1) (i := 10) rfl)), (List.mem_append_left _ (List.mem_of_getElem? (l := tables_1_1) (i := 132) rfl)), (List.mem_append_left _ (List.mem_of_getElem? (l := tables_1_1) (i := 133) rfl))⟩
theorem lw_p1 : lw_okq (⟨"StreamSeal$ChaCha20", "lay", "([B[BI)V"⟩, 2) := ⟨⟨by decide +kernel, by decide +kernel⟩, (List.mem_append_left _ (List.mem_of_getElem? (l := tables_1_1) (i := 18) rfl)), (List.mem_append_left _ (List.mem_of_getElem? (l := tables_1_1) (i := 159) rfl)), (List.mem_append_left _ (List.mem_of_getElem? (l := tables_1_1) (i := 160) rfl))⟩
theorem lw_p2 : lw_okq (⟨"StreamSeal$ChaCha20", "mixColumns", "()V"⟩, 2) := ⟨⟨by decide +kernel, by decide +kernel⟩, (List.mem_append_left _ (List.mem_of_getElem? (l := tables_1_1) (i := 18) rfl)), (List.mem_append_left _ (List.mem_of_getElem? (l := tables_1_1) (i := 171) rfl)), (List.mem_append_left _ (List.mem_of_getElem? (l := tables_1_1) (i := 172) rfl))⟩
theorem lw_p3 : lw_okq (⟨"StreamSeal$ChaCha20", "mixQuarter", "(IIII)V"⟩, 2) := ⟨⟨by decide +kernel, by decide +kernel⟩, (List.mem_append_left _ (List.mem_of_getElem? (l := tables_1_1) (i := 18) rfl)), (List.mem_append_left _ (List.mem_of_getElem? (l := tables_1_1) (i := 175) rfl)), (List.mem_append_left _ (List.mem_of_getElem? (l := tables_1_1) (i := 176) rfl))⟩
theorem lw_p4 : lw_okq (⟨"StreamSeal$ChaCha20", "mixDiagonals", "()V"⟩, 2) := ⟨⟨by decide +kernel, by decide +kernel⟩, (List.mem_append_left _ (List.mem_of_getElem? (l := tables_1_1) (i := 18) rfl)), (List.mem_append_left _ (List.mem_of_getElem? (l := tables_1_1) (i := 182) rfl)), (List.mem_append_left _ (List.mem_of_getElem? (l := tables_1_1) (i := 183) rfl))⟩
theorem lw_p5 : lw_okq (⟨"StreamSeal$Poly1305", "clampBlock", "()V"⟩, 6) := ⟨⟨by decide +kernel, by decide +kernel⟩, (List.mem_append_left _ (List.mem_of_getElem? (l := tables_1_1) (i := 33) rfl)), (List.mem_append_left _ (List.mem_of_getElem? (l := tables_1_1) (i := 198) rfl)), (List.mem_append_left _ (List.mem_of_getElem? (l := tables_1_1) (i := 199) rfl))⟩
theorem lw_p6 : lw_okq (⟨"StreamSeal$Poly1305", "blockPart", "(I)J"⟩, 6) := ⟨⟨by decide +kernel, by decide +kernel⟩, (List.mem_append_left _ (List.mem_of_getElem? (l := tables_1_1) (i := 33) rfl)), (List.mem_append_left _ (List.mem_of_getElem? (l := tables_1_1) (i := 202) rfl)), (List.mem_append_left _ (List.mem_of_getElem? (l := tables_1_1) (i := 203) rfl))⟩
theorem lw_p7 : lw_okq (⟨"StreamSeal$Poly1305", "addBlock", "([BIII)V"⟩, 6) := ⟨⟨by decide +kernel, by decide +kernel⟩, (List.mem_append_left _ (List.mem_of_getElem? (l := tables_1_1) (i := 33) rfl)), (List.mem_append_left _ (List.mem_of_getElem? (l := tables_1_1) (i := 216) rfl)), (List.mem_append_left _ (List.mem_of_getElem? (l := tables_1_1) (i := 217) rfl))⟩
theorem lw_p8 : lw_okq (⟨"StreamSeal$Poly1305", "multiply", "()V"⟩, 6) := ⟨⟨by decide +kernel, by decide +kernel⟩, (List.mem_append_left _ (List.mem_of_getElem? (l := tables_1_1) (i := 33) rfl)), (List.mem_append_left _ (List.mem_of_getElem? (l := tables_1_1) (i := 223) rfl)), (List.mem_append_left _ (List.mem_of_getElem? (l := tables_1_1) (i := 224) rfl))⟩
theorem lw_p9 : lw_okq (⟨"StreamSeal$Poly1305", "carry", "()V"⟩, 6) := ⟨⟨by decide +kernel, by decide +kernel⟩, (List.mem_append_left _ (List.mem_of_getElem? (l := tables_1_1) (i := 33) rfl)), (List.mem_append_left _ (List.mem_of_getElem? (l := tables_1_1) (i := 228) rfl)), (List.mem_append_left _ (List.mem_of_getElem? (l := tables_1_1) (i := 229) rfl))⟩
theorem lw_p10 : lw_okq (⟨"StreamSeal$Poly1305", "takePrimeOff", "()V"⟩, 6) := ⟨⟨by decide +kernel, by decide +kernel⟩, (List.mem_append_left _ (List.mem_of_getElem? (l := tables_1_1) (i := 33) rfl)), (List.mem_append_left _ (List.mem_of_getElem? (l := tables_1_1) (i := 236) rfl)), (List.mem_append_left _ (List.mem_of_getElem? (l := tables_1_1) (i := 237) rfl))⟩
theorem lw_p11 : lw_okq (⟨"StreamSeal", "streamTapeToOut", "(II)V"⟩, 12) := ⟨⟨by decide +kernel, by decide +kernel⟩, (List.mem_append_left _ (List.mem_of_getElem? (l := tables_1_1) (i := 10) rfl)), (List.mem_append_right _ (List.mem_append_left _ (List.mem_of_getElem? (l := tables_1_2) (i := 5) rfl))), (List.mem_append_right _ (List.mem_append_left _ (List.mem_of_getElem? (l := tables_1_2) (i := 6) rfl)))⟩
theorem lw_p12 : lw_okq (⟨"StreamSeal", "sumSealed", "(I[BII)V"⟩, 12) := ⟨⟨by decide +kernel, by decide +kernel⟩, (List.mem_append_left _ (List.mem_of_getElem? (l := tables_1_1) (i := 10) rfl)), (List.mem_append_right _ (List.mem_append_left _ (List.mem_of_getElem? (l := tables_1_2) (i := 10) rfl))), (List.mem_append_right _ (List.mem_append_left _ (List.mem_of_getElem? (l := tables_1_2) (i := 11) rfl)))⟩
theorem lw_p13 : lw_okq (⟨"StreamSeal", "sumStandsAt", "(I)Z"⟩, 12) := ⟨⟨by decide +kernel, by decide +kernel⟩, (List.mem_append_left _ (List.mem_of_getElem? (l := tables_1_1) (i := 10) rfl)), (List.mem_append_right _ (List.mem_append_left _ (List.mem_of_getElem? (l := tables_1_2) (i := 23) rfl))), (List.mem_append_right _ (List.mem_append_left _ (List.mem_of_getElem? (l := tables_1_2) (i := 24) rfl)))⟩
theorem lw_p14 : lw_okq (⟨"StreamSeal$Sha256", "addByte", "(B)V"⟩, 6) := ⟨⟨by decide +kernel, by decide +kernel⟩, (List.mem_append_left _ (List.mem_of_getElem? (l := tables_1_1) (i := 59) rfl)), (List.mem_append_right _ (List.mem_append_left _ (List.mem_of_getElem? (l := tables_1_2) (i := 42) rfl))), (List.mem_append_right _ (List.mem_append_left _ (List.mem_of_getElem? (l := tables_1_2) (i := 43) rfl)))⟩
theorem lw_p15 : lw_okq (⟨"StreamSeal$Sha256", "spreadBlock", "()V"⟩, 6) := ⟨⟨by decide +kernel, by decide +kernel⟩, (List.mem_append_left _ (List.mem_of_getElem? (l := tables_1_1) (i := 59) rfl)), (List.mem_append_right _ (List.mem_append_left _ (List.mem_of_getElem? (l := tables_1_2) (i := 46) rfl))), (List.mem_append_right _ (List.mem_append_left _ (List.mem_of_getElem? (l := tables_1_2) (i := 47) rfl)))⟩
def lw_privs_1 : List (MethodName × Nat) := [(⟨"StreamSeal", "tapeReaches", "(I)Z"⟩, 12), (⟨"StreamSeal$ChaCha20", "lay", "([B[BI)V"⟩, 2), (⟨"StreamSeal$ChaCha20", "mixColumns", "()V"⟩, 2), (⟨"StreamSeal$ChaCha20", "mixQuarter", "(IIII)V"⟩, 2), (⟨"StreamSeal$ChaCha20", "mixDiagonals", "()V"⟩, 2), (⟨"StreamSeal$Poly1305", "clampBlock", "()V"⟩, 6), (⟨"StreamSeal$Poly1305", "blockPart", "(I)J"⟩, 6), (⟨"StreamSeal$Poly1305", "addBlock", "([BIII)V"⟩, 6), (⟨"StreamSeal$Poly1305", "multiply", "()V"⟩, 6), (⟨"StreamSeal$Poly1305", "carry", "()V"⟩, 6), (⟨"StreamSeal$Poly1305", "takePrimeOff", "()V"⟩, 6), (⟨"StreamSeal", "streamTapeToOut", "(II)V"⟩, 12), (⟨"StreamSeal", "sumSealed", "(I[BII)V"⟩, 12), (⟨"StreamSeal", "sumStandsAt", "(I)Z"⟩, 12), (⟨"StreamSeal$Sha256", "addByte", "(B)V"⟩, 6), (⟨"StreamSeal$Sha256", "spreadBlock", "()V"⟩, 6)]
theorem lw_r1 : ∀ q ∈ lw_privs_1, lw_okq q := List.forall_mem_cons.mpr ⟨lw_p0, List.forall_mem_cons.mpr ⟨lw_p1, List.forall_mem_cons.mpr ⟨lw_p2, List.forall_mem_cons.mpr ⟨lw_p3, List.forall_mem_cons.mpr ⟨lw_p4, List.forall_mem_cons.mpr ⟨lw_p5, List.forall_mem_cons.mpr ⟨lw_p6, List.forall_mem_cons.mpr ⟨lw_p7, List.forall_mem_cons.mpr ⟨lw_p8, List.forall_mem_cons.mpr ⟨lw_p9, List.forall_mem_cons.mpr ⟨lw_p10, List.forall_mem_cons.mpr ⟨lw_p11, List.forall_mem_cons.mpr ⟨lw_p12, List.forall_mem_cons.mpr ⟨lw_p13, List.forall_mem_cons.mpr ⟨lw_p14, List.forall_mem_cons.mpr ⟨lw_p15, fun _ h => absurd h List.not_mem_nil⟩⟩⟩⟩⟩⟩⟩⟩⟩⟩⟩⟩⟩⟩⟩⟩
theorem lw_p16 : lw_okq (⟨"StreamSeal$Sha256", "mixBlock", "()V"⟩, 6) := ⟨⟨by decide +kernel, by decide +kernel⟩, (List.mem_append_left _ (List.mem_of_getElem? (l := tables_1_1) (i := 59) rfl)), (List.mem_append_right _ (List.mem_append_left _ (List.mem_of_getElem? (l := tables_1_2) (i := 56) rfl))), (List.mem_append_right _ (List.mem_append_left _ (List.mem_of_getElem? (l := tables_1_2) (i := 57) rfl)))⟩
theorem lw_p17 : lw_okq (⟨"StreamSeal$Sha256", "mixRound", "(I)V"⟩, 6) := ⟨⟨by decide +kernel, by decide +kernel⟩, (List.mem_append_left _ (List.mem_of_getElem? (l := tables_1_1) (i := 59) rfl)), (List.mem_append_right _ (List.mem_append_left _ (List.mem_of_getElem? (l := tables_1_2) (i := 62) rfl))), (List.mem_append_right _ (List.mem_append_left _ (List.mem_of_getElem? (l := tables_1_2) (i := 63) rfl)))⟩
theorem lw_p18 : lw_okq (⟨"StreamSealModel", "put", "(I)V"⟩, 21) := ⟨⟨by decide +kernel, by decide +kernel⟩, (List.mem_append_right _ (List.mem_append_left _ (List.mem_of_getElem? (l := tables_1_2) (i := 83) rfl))), (List.mem_append_right _ (List.mem_append_left _ (List.mem_of_getElem? (l := tables_1_2) (i := 157) rfl))), (List.mem_append_right _ (List.mem_append_left _ (List.mem_of_getElem? (l := tables_1_2) (i := 158) rfl)))⟩
theorem lw_p19 : lw_okq (⟨"StreamSealModel", "block", "(I)V"⟩, 21) := ⟨⟨by decide +kernel, by decide +kernel⟩, (List.mem_append_right _ (List.mem_append_left _ (List.mem_of_getElem? (l := tables_1_2) (i := 83) rfl))), (List.mem_append_right _ (List.mem_append_left _ (List.mem_of_getElem? (l := tables_1_2) (i := 181) rfl))), (List.mem_append_right _ (List.mem_append_left _ (List.mem_of_getElem? (l := tables_1_2) (i := 182) rfl)))⟩
theorem lw_p20 : lw_okq (⟨"StreamSealModel", "mix", "(IIII)V"⟩, 21) := ⟨⟨by decide +kernel, by decide +kernel⟩, (List.mem_append_right _ (List.mem_append_left _ (List.mem_of_getElem? (l := tables_1_2) (i := 83) rfl))), (List.mem_append_right _ (List.mem_append_left _ (List.mem_of_getElem? (l := tables_1_2) (i := 192) rfl))), (List.mem_append_right _ (List.mem_append_left _ (List.mem_of_getElem? (l := tables_1_2) (i := 193) rfl)))⟩
theorem lw_p21 : lw_okq (⟨"StreamSealModel", "sumOf", "([BI)V"⟩, 21) := ⟨⟨by decide +kernel, by decide +kernel⟩, (List.mem_append_right _ (List.mem_append_left _ (List.mem_of_getElem? (l := tables_1_2) (i := 83) rfl))), (List.mem_append_right _ (List.mem_append_left _ (List.mem_of_getElem? (l := tables_1_2) (i := 203) rfl))), (List.mem_append_right _ (List.mem_append_left _ (List.mem_of_getElem? (l := tables_1_2) (i := 204) rfl)))⟩
theorem lw_p22 : lw_okq (⟨"StreamSealModel", "settle", "()V"⟩, 21) := ⟨⟨by decide +kernel, by decide +kernel⟩, (List.mem_append_right _ (List.mem_append_left _ (List.mem_of_getElem? (l := tables_1_2) (i := 83) rfl))), (List.mem_append_right _ (List.mem_append_left _ (List.mem_of_getElem? (l := tables_1_2) (i := 207) rfl))), (List.mem_append_right _ (List.mem_append_left _ (List.mem_of_getElem? (l := tables_1_2) (i := 208) rfl)))⟩
theorem lw_p23 : lw_okq (⟨"StreamSealModel", "carry", "()V"⟩, 21) := ⟨⟨by decide +kernel, by decide +kernel⟩, (List.mem_append_right _ (List.mem_append_left _ (List.mem_of_getElem? (l := tables_1_2) (i := 83) rfl))), (List.mem_append_right _ (List.mem_append_left _ (List.mem_of_getElem? (l := tables_1_2) (i := 211) rfl))), (List.mem_append_right _ (List.mem_append_left _ (List.mem_of_getElem? (l := tables_1_2) (i := 212) rfl)))⟩
theorem lw_p24 : lw_okq (⟨"StreamSealModel", "tag", "()I"⟩, 21) := ⟨⟨by decide +kernel, by decide +kernel⟩, (List.mem_append_right _ (List.mem_append_left _ (List.mem_of_getElem? (l := tables_1_2) (i := 83) rfl))), (List.mem_append_right _ (List.mem_append_left _ (List.mem_of_getElem? (l := tables_1_2) (i := 215) rfl))), (List.mem_append_right _ (List.mem_append_left _ (List.mem_of_getElem? (l := tables_1_2) (i := 216) rfl)))⟩
theorem lw_p25 : lw_okq (⟨"StreamSealModel", "cover", "(II[B)V"⟩, 21) := ⟨⟨by decide +kernel, by decide +kernel⟩, (List.mem_append_right _ (List.mem_append_left _ (List.mem_of_getElem? (l := tables_1_2) (i := 83) rfl))), (List.mem_append_right _ (List.mem_append_left _ (List.mem_of_getElem? (l := tables_1_2) (i := 223) rfl))), (List.mem_append_right _ (List.mem_append_left _ (List.mem_of_getElem? (l := tables_1_2) (i := 224) rfl)))⟩
theorem lw_p26 : lw_okq (⟨"StreamSealModel", "seals", "(I[BII)V"⟩, 21) := ⟨⟨by decide +kernel, by decide +kernel⟩, (List.mem_append_right _ (List.mem_append_left _ (List.mem_of_getElem? (l := tables_1_2) (i := 83) rfl))), (List.mem_append_right _ (List.mem_append_left _ (List.mem_of_getElem? (l := tables_1_2) (i := 227) rfl))), (List.mem_append_right _ (List.mem_append_left _ (List.mem_of_getElem? (l := tables_1_2) (i := 228) rfl)))⟩
theorem lw_p27 : lw_okq (⟨"StreamSealModel", "text", "([BII)V"⟩, 21) := ⟨⟨by decide +kernel, by decide +kernel⟩, (List.mem_append_right _ (List.mem_append_left _ (List.mem_of_getElem? (l := tables_1_2) (i := 83) rfl))), (List.mem_append_right _ (List.mem_append_left _ (List.mem_of_getElem? (l := tables_1_2) (i := 231) rfl))), (List.mem_append_right _ (List.mem_append_left _ (List.mem_of_getElem? (l := tables_1_2) (i := 232) rfl)))⟩
theorem lw_p28 : lw_okq (⟨"StreamSealModel", "add", "([BII)V"⟩, 21) := ⟨⟨by decide +kernel, by decide +kernel⟩, (List.mem_append_right _ (List.mem_append_left _ (List.mem_of_getElem? (l := tables_1_2) (i := 83) rfl))), (List.mem_append_right _ (List.mem_append_right _ (List.mem_of_getElem? (l := tables_1_3) (i := 3) rfl))), (List.mem_append_right _ (List.mem_append_right _ (List.mem_of_getElem? (l := tables_1_3) (i := 4) rfl)))⟩
theorem lw_p29 : lw_okq (⟨"StreamSealModel", "add", "(I)V"⟩, 21) := ⟨⟨by decide +kernel, by decide +kernel⟩, (List.mem_append_right _ (List.mem_append_left _ (List.mem_of_getElem? (l := tables_1_2) (i := 83) rfl))), (List.mem_append_right _ (List.mem_append_right _ (List.mem_of_getElem? (l := tables_1_3) (i := 7) rfl))), (List.mem_append_right _ (List.mem_append_right _ (List.mem_of_getElem? (l := tables_1_3) (i := 8) rfl)))⟩
theorem lw_p30 : lw_okq (⟨"StreamSealModel", "hashTo", "([BI)V"⟩, 21) := ⟨⟨by decide +kernel, by decide +kernel⟩, (List.mem_append_right _ (List.mem_append_left _ (List.mem_of_getElem? (l := tables_1_2) (i := 83) rfl))), (List.mem_append_right _ (List.mem_append_right _ (List.mem_of_getElem? (l := tables_1_3) (i := 11) rfl))), (List.mem_append_right _ (List.mem_append_right _ (List.mem_of_getElem? (l := tables_1_3) (i := 12) rfl)))⟩
theorem lw_p31 : lw_okq (⟨"StreamSealModel", "block", "(III)V"⟩, 21) := ⟨⟨by decide +kernel, by decide +kernel⟩, (List.mem_append_right _ (List.mem_append_left _ (List.mem_of_getElem? (l := tables_1_2) (i := 83) rfl))), (List.mem_append_right _ (List.mem_append_right _ (List.mem_of_getElem? (l := tables_1_3) (i := 18) rfl))), (List.mem_append_right _ (List.mem_append_right _ (List.mem_of_getElem? (l := tables_1_3) (i := 19) rfl)))⟩
def lw_privs_2 : List (MethodName × Nat) := [(⟨"StreamSeal$Sha256", "mixBlock", "()V"⟩, 6), (⟨"StreamSeal$Sha256", "mixRound", "(I)V"⟩, 6), (⟨"StreamSealModel", "put", "(I)V"⟩, 21), (⟨"StreamSealModel", "block", "(I)V"⟩, 21), (⟨"StreamSealModel", "mix", "(IIII)V"⟩, 21), (⟨"StreamSealModel", "sumOf", "([BI)V"⟩, 21), (⟨"StreamSealModel", "settle", "()V"⟩, 21), (⟨"StreamSealModel", "carry", "()V"⟩, 21), (⟨"StreamSealModel", "tag", "()I"⟩, 21), (⟨"StreamSealModel", "cover", "(II[B)V"⟩, 21), (⟨"StreamSealModel", "seals", "(I[BII)V"⟩, 21), (⟨"StreamSealModel", "text", "([BII)V"⟩, 21), (⟨"StreamSealModel", "add", "([BII)V"⟩, 21), (⟨"StreamSealModel", "add", "(I)V"⟩, 21), (⟨"StreamSealModel", "hashTo", "([BI)V"⟩, 21), (⟨"StreamSealModel", "block", "(III)V"⟩, 21)]
theorem lw_r2 : ∀ q ∈ lw_privs_2, lw_okq q := List.forall_mem_cons.mpr ⟨lw_p16, List.forall_mem_cons.mpr ⟨lw_p17, List.forall_mem_cons.mpr ⟨lw_p18, List.forall_mem_cons.mpr ⟨lw_p19, List.forall_mem_cons.mpr ⟨lw_p20, List.forall_mem_cons.mpr ⟨lw_p21, List.forall_mem_cons.mpr ⟨lw_p22, List.forall_mem_cons.mpr ⟨lw_p23, List.forall_mem_cons.mpr ⟨lw_p24, List.forall_mem_cons.mpr ⟨lw_p25, List.forall_mem_cons.mpr ⟨lw_p26, List.forall_mem_cons.mpr ⟨lw_p27, List.forall_mem_cons.mpr ⟨lw_p28, List.forall_mem_cons.mpr ⟨lw_p29, List.forall_mem_cons.mpr ⟨lw_p30, List.forall_mem_cons.mpr ⟨lw_p31, fun _ h => absurd h List.not_mem_nil⟩⟩⟩⟩⟩⟩⟩⟩⟩⟩⟩⟩⟩⟩⟩⟩
def lw_privs : List (MethodName × Nat) := lw_privs_1 ++ (lw_privs_2)
def lw_tbl : List Cond := k2_sels lw_privs ++ tables_1
theorem lw_privs_ok : ∀ q ∈ lw_privs, lw_okq q := by
  show ∀ q ∈ lw_privs_1 ++ (lw_privs_2), lw_okq q
  exact List.forall_mem_append.mpr ⟨lw_r1, lw_r2⟩

abbrev RX0 : String := "StreamSeal$ChaCha20"
def TX0 : u_T := fun k => match k with
  | 0 => ("StreamSeal$ChaCha20", "first", "[I", true)
  | _ => ("StreamSeal$ChaCha20", "mixed", "[I", true)
def tyX0 : Nat → FieldType := fun k => match k with
  | 0 => .array .int
  | _ => .array .int
theorem nmX0 : ∀ a, a < 2 → ∀ b, b < 2 → a ≠ b → (TX0 a).2.1 ≠ (TX0 b).2.1 := by decide +kernel
theorem tyX0_ok : ∀ k, k < 2 → parseFieldDescriptor (TX0 k).2.2.1 = some (tyX0 k) := by decide +kernel
abbrev RX1 : String := "StreamSeal$Poly1305"
def TX1 : u_T := fun k => match k with
  | 0 => ("StreamSeal$Poly1305", "factor", "[J", true)
  | 1 => ("StreamSeal$Poly1305", "total", "[J", true)
  | 2 => ("StreamSeal$Poly1305", "product", "[J", true)
  | 3 => ("StreamSeal$Poly1305", "words", "[J", true)
  | 4 => ("StreamSeal$Poly1305", "last", "[I", true)
  | _ => ("StreamSeal$Poly1305", "block", "[B", true)
def tyX1 : Nat → FieldType := fun k => match k with
  | 0 => .array .long
  | 1 => .array .long
  | 2 => .array .long
  | 3 => .array .long
  | 4 => .array .int
  | _ => .array .byte
theorem nmX1 : ∀ a, a < 6 → ∀ b, b < 6 → a ≠ b → (TX1 a).2.1 ≠ (TX1 b).2.1 := by decide +kernel
theorem tyX1_ok : ∀ k, k < 6 → parseFieldDescriptor (TX1 k).2.2.1 = some (tyX1 k) := by decide +kernel
abbrev RX2 : String := "StreamSeal$Sha256"
def TX2 : u_T := fun k => match k with
  | 0 => ("StreamSeal$Sha256", "state", "[I", true)
  | 1 => ("StreamSeal$Sha256", "schedule", "[I", true)
  | 2 => ("StreamSeal$Sha256", "round", "[I", true)
  | 3 => ("StreamSeal$Sha256", "block", "[B", true)
  | 4 => ("StreamSeal$Sha256", "filled", "I", false)
  | _ => ("StreamSeal$Sha256", "size", "I", false)
def tyX2 : Nat → FieldType := fun k => match k with
  | 0 => .array .int
  | 1 => .array .int
  | 2 => .array .int
  | 3 => .array .byte
  | 4 => .int
  | _ => .int
theorem nmX2 : ∀ a, a < 6 → ∀ b, b < 6 → a ≠ b → (TX2 a).2.1 ≠ (TX2 b).2.1 := by decide +kernel
theorem tyX2_ok : ∀ k, k < 6 → parseFieldDescriptor (TX2 k).2.2.1 = some (tyX2 k) := by decide +kernel
abbrev RX3 : String := "StreamSeal"
def TX3 : u_T := fun k => match k with
  | 0 => ("StreamSeal", "tape", "[B", true)
  | 1 => ("StreamSeal", "tapeSize", "I", false)
  | 2 => ("StreamSeal", "out", "[B", true)
  | 3 => ("StreamSeal", "outSize", "I", false)
  | 4 => ("StreamSeal", "keyBytes", "[B", true)
  | 5 => ("StreamSeal", "nonceBytes", "[B", true)
  | 6 => ("StreamSeal", "streamBytes", "[B", true)
  | 7 => ("StreamSeal", "sizeBytes", "[B", true)
  | 8 => ("StreamSeal", "sumBytes", "[B", true)
  | 9 => ("StreamSeal", "streamer", "LStreamSeal$ChaCha20;", true)
  | 10 => ("StreamSeal", "summer", "LStreamSeal$Poly1305;", true)
  | _ => ("StreamSeal", "digester", "LStreamSeal$Sha256;", true)
def tyX3 : Nat → FieldType := fun k => match k with
  | 0 => .array .byte
  | 1 => .int
  | 2 => .array .byte
  | 3 => .int
  | 4 => .array .byte
  | 5 => .array .byte
  | 6 => .array .byte
  | 7 => .array .byte
  | 8 => .array .byte
  | 9 => .object "StreamSeal$ChaCha20"
  | 10 => .object "StreamSeal$Poly1305"
  | _ => .object "StreamSeal$Sha256"
theorem nmX3 : ∀ a, a < 12 → ∀ b, b < 12 → a ≠ b → (TX3 a).2.1 ≠ (TX3 b).2.1 := by decide +kernel
theorem tyX3_ok : ∀ k, k < 12 → parseFieldDescriptor (TX3 k).2.2.1 = some (tyX3 k) := by decide +kernel
abbrev RX4 : String := "StreamSealModel"
def TX4 : u_T := fun k => match k with
  | 0 => ("StreamSealModel", "tape", "[B", true)
  | 1 => ("StreamSealModel", "tapeLength", "I", false)
  | 2 => ("StreamSealModel", "out", "[B", true)
  | 3 => ("StreamSealModel", "outCount", "I", false)
  | 4 => ("StreamSealModel", "key", "[B", true)
  | 5 => ("StreamSealModel", "nonce", "[B", true)
  | 6 => ("StreamSealModel", "row", "[B", true)
  | 7 => ("StreamSealModel", "rowCount", "I", false)
  | 8 => ("StreamSealModel", "h", "[J", true)
  | 9 => ("StreamSealModel", "w", "[J", true)
  | 10 => ("StreamSealModel", "one", "[B", true)
  | 11 => ("StreamSealModel", "v", "[I", true)
  | 12 => ("StreamSealModel", "begin", "[I", true)
  | 13 => ("StreamSealModel", "stream", "[B", true)
  | 14 => ("StreamSealModel", "sum", "[I", true)
  | 15 => ("StreamSealModel", "product", "[I", true)
  | 16 => ("StreamSealModel", "\x72", "[I", true)
  | 17 => ("StreamSealModel", "text", "[B", true)
  | 18 => ("StreamSealModel", "tag", "[B", true)
  | 19 => ("StreamSealModel", "above", "[I", true)
  | _ => ("StreamSealModel", "texts", "I", false)
def tyX4 : Nat → FieldType := fun k => match k with
  | 0 => .array .byte
  | 1 => .int
  | 2 => .array .byte
  | 3 => .int
  | 4 => .array .byte
  | 5 => .array .byte
  | 6 => .array .byte
  | 7 => .int
  | 8 => .array .long
  | 9 => .array .long
  | 10 => .array .byte
  | 11 => .array .int
  | 12 => .array .int
  | 13 => .array .byte
  | 14 => .array .int
  | 15 => .array .int
  | 16 => .array .int
  | 17 => .array .byte
  | 18 => .array .byte
  | 19 => .array .int
  | _ => .int
theorem nmX4 : ∀ a, a < 21 → ∀ b, b < 21 → a ≠ b → (TX4 a).2.1 ≠ (TX4 b).2.1 := by decide +kernel
theorem tyX4_ok : ∀ k, k < 21 → parseFieldDescriptor (TX4 k).2.2.1 = some (tyX4 k) := by decide +kernel
abbrev vwCl : List vw_C := [(RX0, TX0, 2), (RX1, TX1, 6), (RX2, TX2, 6), (RX3, TX3, 12), (RX4, TX4, 21)]
abbrev cS_init : ByteArray := prog_1_method_1_code
def yS_init : MethodName := ⟨"StreamSeal", "<init>", "()V"⟩
abbrev cS_feed : ByteArray := prog_1_method_2_code
def yS_feed : MethodName := ⟨"StreamSeal", "feed", "(IIIII)I"⟩
abbrev cS_end : ByteArray := prog_1_method_3_code
def yS_end : MethodName := ⟨"StreamSeal", "end", "(I)I"⟩
abbrev cS_take : ByteArray := prog_1_method_4_code
def yS_take : MethodName := ⟨"StreamSeal", "take", "(I)I"⟩
abbrev cS_key : ByteArray := prog_1_method_5_code
def yS_key : MethodName := ⟨"StreamSeal", "key", "()I"⟩
abbrev cS_nonce : ByteArray := prog_1_method_6_code
def yS_nonce : MethodName := ⟨"StreamSeal", "nonce", "(IJ)V"⟩
abbrev cS_stream : ByteArray := prog_1_method_7_code
def yS_stream : MethodName := ⟨"StreamSeal", "stream", "(I)I"⟩
abbrev cS_sum : ByteArray := prog_1_method_8_code
def yS_sum : MethodName := ⟨"StreamSeal", "sum", "()I"⟩
abbrev cS_seal : ByteArray := prog_1_method_9_code
def yS_seal : MethodName := ⟨"StreamSeal", "seal", "(I)I"⟩
abbrev cS_open : ByteArray := prog_1_method_10_code
def yS_open : MethodName := ⟨"StreamSeal", "open", "(I)I"⟩
abbrev cS_digest : ByteArray := prog_1_method_11_code
def yS_digest : MethodName := ⟨"StreamSeal", "digest", "()I"⟩
abbrev cS_mac : ByteArray := prog_1_method_12_code
def yS_mac : MethodName := ⟨"StreamSeal", "mac", "()I"⟩
abbrev cS_octet : ByteArray := prog_1_method_13_code
def yS_octet : MethodName := ⟨"StreamSeal", "octet", "(I)I"⟩
abbrev cS_tapeReaches : ByteArray := prog_1_method_14_code
def yS_tapeReaches : MethodName := ⟨"StreamSeal", "tapeReaches", "(I)Z"⟩
abbrev cS_streamTapeToOut : ByteArray := prog_1_method_15_code
def yS_streamTapeToOut : MethodName := ⟨"StreamSeal", "streamTapeToOut", "(II)V"⟩
abbrev cS_sumSealed : ByteArray := prog_1_method_16_code
def yS_sumSealed : MethodName := ⟨"StreamSeal", "sumSealed", "(I[BII)V"⟩
abbrev cS_sumStandsAt : ByteArray := prog_1_method_17_code
def yS_sumStandsAt : MethodName := ⟨"StreamSeal", "sumStandsAt", "(I)Z"⟩
abbrev cS_writeHighestFirst : ByteArray := prog_1_method_18_code
def yS_writeHighestFirst : MethodName := ⟨"StreamSeal", "writeHighestFirst", "([BII)V"⟩
abbrev cS_writeLowestFirst : ByteArray := prog_1_method_19_code
def yS_writeLowestFirst : MethodName := ⟨"StreamSeal", "writeLowestFirst", "([BII)V"⟩
abbrev cS_readHighestFirst : ByteArray := prog_1_method_20_code
def yS_readHighestFirst : MethodName := ⟨"StreamSeal", "readHighestFirst", "([BI)I"⟩
abbrev cS_readLowestFirst : ByteArray := prog_1_method_21_code
def yS_readLowestFirst : MethodName := ⟨"StreamSeal", "readLowestFirst", "([BI)I"⟩
abbrev cS_turnLeft : ByteArray := prog_1_method_22_code
def yS_turnLeft : MethodName := ⟨"StreamSeal", "turnLeft", "(II)I"⟩
abbrev cS_turnRight : ByteArray := prog_1_method_23_code
def yS_turnRight : MethodName := ⟨"StreamSeal", "turnRight", "(II)I"⟩
abbrev cM_init : ByteArray := prog_6_method_1_code
def yM_init : MethodName := ⟨"StreamSealModel", "<init>", "()V"⟩
abbrev cM_add : ByteArray := prog_6_method_2_code
def yM_add : MethodName := ⟨"StreamSealModel", "add", "(I)V"⟩
abbrev cM_addArr : ByteArray := prog_6_method_3_code
def yM_addArr : MethodName := ⟨"StreamSealModel", "add", "([BII)V"⟩
abbrev cM_turn : ByteArray := prog_6_method_4_code
def yM_turn : MethodName := ⟨"StreamSealModel", "turn", "(JI)J"⟩
abbrev cM_hblock : ByteArray := prog_6_method_5_code
def yM_hblock : MethodName := ⟨"StreamSealModel", "block", "(III)V"⟩
abbrev cM_hashTo : ByteArray := prog_6_method_6_code
def yM_hashTo : MethodName := ⟨"StreamSealModel", "hashTo", "([BI)V"⟩
abbrev cM_low : ByteArray := prog_6_method_7_code
def yM_low : MethodName := ⟨"StreamSealModel", "low", "([BI)I"⟩
abbrev cM_mix : ByteArray := prog_6_method_8_code
def yM_mix : MethodName := ⟨"StreamSealModel", "mix", "(IIII)V"⟩
abbrev cM_turned : ByteArray := prog_6_method_9_code
def yM_turned : MethodName := ⟨"StreamSealModel", "turned", "(II)I"⟩
abbrev cM_block : ByteArray := prog_6_method_10_code
def yM_block : MethodName := ⟨"StreamSealModel", "block", "(I)V"⟩
abbrev cM_carry : ByteArray := prog_6_method_11_code
def yM_carry : MethodName := ⟨"StreamSealModel", "carry", "()V"⟩
abbrev cM_settle : ByteArray := prog_6_method_12_code
def yM_settle : MethodName := ⟨"StreamSealModel", "settle", "()V"⟩
abbrev cM_sumOf : ByteArray := prog_6_method_13_code
def yM_sumOf : MethodName := ⟨"StreamSealModel", "sumOf", "([BI)V"⟩
abbrev cM_text : ByteArray := prog_6_method_14_code
def yM_text : MethodName := ⟨"StreamSealModel", "text", "([BII)V"⟩
abbrev cM_seals : ByteArray := prog_6_method_15_code
def yM_seals : MethodName := ⟨"StreamSealModel", "seals", "(I[BII)V"⟩
abbrev cM_cover : ByteArray := prog_6_method_16_code
def yM_cover : MethodName := ⟨"StreamSealModel", "cover", "(II[B)V"⟩
abbrev cM_put : ByteArray := prog_6_method_17_code
def yM_put : MethodName := ⟨"StreamSealModel", "put", "(I)V"⟩
abbrev cM_feed : ByteArray := prog_6_method_18_code
def yM_feed : MethodName := ⟨"StreamSealModel", "feed", "(IIIII)I"⟩
abbrev cM_end : ByteArray := prog_6_method_19_code
def yM_end : MethodName := ⟨"StreamSealModel", "end", "(I)I"⟩
abbrev cM_take : ByteArray := prog_6_method_20_code
def yM_take : MethodName := ⟨"StreamSealModel", "take", "(I)I"⟩
abbrev cM_key : ByteArray := prog_6_method_21_code
def yM_key : MethodName := ⟨"StreamSealModel", "key", "()I"⟩
abbrev cM_nonce : ByteArray := prog_6_method_22_code
def yM_nonce : MethodName := ⟨"StreamSealModel", "nonce", "(IJ)V"⟩
abbrev cM_stream : ByteArray := prog_6_method_23_code
def yM_stream : MethodName := ⟨"StreamSealModel", "stream", "(I)I"⟩
abbrev cM_tag : ByteArray := prog_6_method_24_code
def yM_tag : MethodName := ⟨"StreamSealModel", "tag", "()I"⟩
abbrev cM_sum : ByteArray := prog_6_method_25_code
def yM_sum : MethodName := ⟨"StreamSealModel", "sum", "()I"⟩
abbrev cM_seal : ByteArray := prog_6_method_26_code
def yM_seal : MethodName := ⟨"StreamSealModel", "seal", "(I)I"⟩
abbrev cM_open : ByteArray := prog_6_method_27_code
def yM_open : MethodName := ⟨"StreamSealModel", "open", "(I)I"⟩
abbrev cM_digest : ByteArray := prog_6_method_28_code
def yM_digest : MethodName := ⟨"StreamSealModel", "digest", "()I"⟩
abbrev cM_mac : ByteArray := prog_6_method_29_code
def yM_mac : MethodName := ⟨"StreamSealModel", "mac", "()I"⟩
abbrev cM_octet : ByteArray := prog_6_method_30_code
def yM_octet : MethodName := ⟨"StreamSealModel", "octet", "(I)I"⟩
abbrev cC_init : ByteArray := prog_2_method_1_code
def yC_init : MethodName := ⟨"StreamSeal$ChaCha20", "<init>", "()V"⟩
abbrev cC_fill : ByteArray := prog_2_method_2_code
def yC_fill : MethodName := ⟨"StreamSeal$ChaCha20", "fill", "([B[B[BI)V"⟩
abbrev cC_lay : ByteArray := prog_2_method_3_code
def yC_lay : MethodName := ⟨"StreamSeal$ChaCha20", "lay", "([B[BI)V"⟩
abbrev cC_mixColumns : ByteArray := prog_2_method_4_code
def yC_mixColumns : MethodName := ⟨"StreamSeal$ChaCha20", "mixColumns", "()V"⟩
abbrev cC_mixDiagonals : ByteArray := prog_2_method_5_code
def yC_mixDiagonals : MethodName := ⟨"StreamSeal$ChaCha20", "mixDiagonals", "()V"⟩
abbrev cC_mixQuarter : ByteArray := prog_2_method_6_code
def yC_mixQuarter : MethodName := ⟨"StreamSeal$ChaCha20", "mixQuarter", "(IIII)V"⟩
abbrev cP_init : ByteArray := prog_3_method_1_code
def yP_init : MethodName := ⟨"StreamSeal$Poly1305", "<init>", "()V"⟩
abbrev cP_start : ByteArray := prog_3_method_2_code
def yP_start : MethodName := ⟨"StreamSeal$Poly1305", "start", "([B)V"⟩
abbrev cP_add : ByteArray := prog_3_method_3_code
def yP_add : MethodName := ⟨"StreamSeal$Poly1305", "add", "([BII)V"⟩
abbrev cP_addPadded : ByteArray := prog_3_method_4_code
def yP_addPadded : MethodName := ⟨"StreamSeal$Poly1305", "addPadded", "([BII)V"⟩
abbrev cP_finish : ByteArray := prog_3_method_5_code
def yP_finish : MethodName := ⟨"StreamSeal$Poly1305", "finish", "([BI)V"⟩
abbrev cP_clampBlock : ByteArray := prog_3_method_6_code
def yP_clampBlock : MethodName := ⟨"StreamSeal$Poly1305", "clampBlock", "()V"⟩
abbrev cP_blockPart : ByteArray := prog_3_method_7_code
def yP_blockPart : MethodName := ⟨"StreamSeal$Poly1305", "blockPart", "(I)J"⟩
abbrev cP_addBlock : ByteArray := prog_3_method_8_code
def yP_addBlock : MethodName := ⟨"StreamSeal$Poly1305", "addBlock", "([BIII)V"⟩
abbrev cP_multiply : ByteArray := prog_3_method_9_code
def yP_multiply : MethodName := ⟨"StreamSeal$Poly1305", "multiply", "()V"⟩
abbrev cP_carry : ByteArray := prog_3_method_10_code
def yP_carry : MethodName := ⟨"StreamSeal$Poly1305", "carry", "()V"⟩
abbrev cP_takePrimeOff : ByteArray := prog_3_method_11_code
def yP_takePrimeOff : MethodName := ⟨"StreamSeal$Poly1305", "takePrimeOff", "()V"⟩
abbrev cH_init : ByteArray := prog_4_method_1_code
def yH_init : MethodName := ⟨"StreamSeal$Sha256", "<init>", "()V"⟩
abbrev cH_start : ByteArray := prog_4_method_2_code
def yH_start : MethodName := ⟨"StreamSeal$Sha256", "start", "()V"⟩
abbrev cH_add : ByteArray := prog_4_method_3_code
def yH_add : MethodName := ⟨"StreamSeal$Sha256", "add", "([BI)V"⟩
abbrev cH_addMasked : ByteArray := prog_4_method_4_code
def yH_addMasked : MethodName := ⟨"StreamSeal$Sha256", "addMasked", "([BI)V"⟩
abbrev cH_finish : ByteArray := prog_4_method_5_code
def yH_finish : MethodName := ⟨"StreamSeal$Sha256", "finish", "([B)V"⟩
abbrev cH_addByte : ByteArray := prog_4_method_6_code
def yH_addByte : MethodName := ⟨"StreamSeal$Sha256", "addByte", "(B)V"⟩
abbrev cH_spreadBlock : ByteArray := prog_4_method_7_code
def yH_spreadBlock : MethodName := ⟨"StreamSeal$Sha256", "spreadBlock", "()V"⟩
abbrev cH_mixBlock : ByteArray := prog_4_method_8_code
def yH_mixBlock : MethodName := ⟨"StreamSeal$Sha256", "mixBlock", "()V"⟩
abbrev cH_mixRound : ByteArray := prog_4_method_9_code
def yH_mixRound : MethodName := ⟨"StreamSeal$Sha256", "mixRound", "(I)V"⟩
abbrev cL_law : ByteArray := code
def yL_law : MethodName := ⟨"StreamSealLaw", "law", "([I)Z"⟩
abbrev cA_fill : ByteArray := prog_9_method_109_code
def yA_fill : MethodName := ⟨"java/util/Arrays", "fill", "([BB)V"⟩
def gT : List Cond := lw_tbl.filter goodWord
theorem gT_tbl {w : Cond} (h : w ∈ gT) : w ∈ lw_tbl := (List.mem_filter.mp h).1
theorem gT_good : ∀ w ∈ gT, w ∈ gT ∧ ((w.onTables && w.keeps) = true ∨ ∃ ty, w = .arrayClass ty) := fun w h => ⟨h, good_of_word (List.mem_filter.mp h).2⟩
end
section
theorem m0 : Cond.initialized "StreamSealLaw" ∈ gT := List.mem_filter.mpr ⟨List.mem_append_right _ (List.mem_append_left _ (List.mem_of_getElem? (l := tables_1_1) (i := 0) rfl)), rfl⟩
theorem m1 : Cond.initialized "StreamSeal" ∈ gT := List.mem_filter.mpr ⟨List.mem_append_right _ (List.mem_append_left _ (List.mem_of_getElem? (l := tables_1_1) (i := 1) rfl)), rfl⟩
theorem m2 : Cond.initialized "StreamSeal$ChaCha20" ∈ gT := List.mem_filter.mpr ⟨List.mem_append_right _ (List.mem_append_left _ (List.mem_of_getElem? (l := tables_1_1) (i := 2) rfl)), rfl⟩
theorem m3 : Cond.initialized "StreamSeal$Poly1305" ∈ gT := List.mem_filter.mpr ⟨List.mem_append_right _ (List.mem_append_left _ (List.mem_of_getElem? (l := tables_1_1) (i := 3) rfl)), rfl⟩
theorem m4 : Cond.initialized "StreamSeal$Sha256" ∈ gT := List.mem_filter.mpr ⟨List.mem_append_right _ (List.mem_append_left _ (List.mem_of_getElem? (l := tables_1_1) (i := 4) rfl)), rfl⟩
theorem m5 : Cond.initialized "StreamSealModel" ∈ gT := List.mem_filter.mpr ⟨List.mem_append_right _ (List.mem_append_left _ (List.mem_of_getElem? (l := tables_1_1) (i := 5) rfl)), rfl⟩
theorem m6 : Cond.initialized "java/lang/System" ∈ gT := List.mem_filter.mpr ⟨List.mem_append_right _ (List.mem_append_left _ (List.mem_of_getElem? (l := tables_1_1) (i := 6) rfl)), rfl⟩
theorem m7 : Cond.initialized "java/lang/Math" ∈ gT := List.mem_filter.mpr ⟨List.mem_append_right _ (List.mem_append_left _ (List.mem_of_getElem? (l := tables_1_1) (i := 7) rfl)), rfl⟩
theorem m8 : Cond.initialized "java/util/Arrays" ∈ gT := List.mem_filter.mpr ⟨List.mem_append_right _ (List.mem_append_left _ (List.mem_of_getElem? (l := tables_1_1) (i := 8) rfl)), rfl⟩
theorem m9 : Cond.classLink "StreamSealLaw" 7 "StreamSeal" ∈ gT := List.mem_filter.mpr ⟨List.mem_append_right _ (List.mem_append_left _ (List.mem_of_getElem? (l := tables_1_1) (i := 9) rfl)), rfl⟩
theorem m10 : Cond.instantiable "StreamSeal" 12 ∈ gT := List.mem_filter.mpr ⟨List.mem_append_right _ (List.mem_append_left _ (List.mem_of_getElem? (l := tables_1_1) (i := 10) rfl)), rfl⟩
theorem m11 : Cond.methodLink "StreamSealLaw" 9 yS_init ∈ gT := List.mem_filter.mpr ⟨List.mem_append_right _ (List.mem_append_left _ (List.mem_of_getElem? (l := tables_1_1) (i := 11) rfl)), rfl⟩
theorem m12 : Cond.instanceMethod yS_init ∈ gT := List.mem_filter.mpr ⟨List.mem_append_right _ (List.mem_append_left _ (List.mem_of_getElem? (l := tables_1_1) (i := 12) rfl)), rfl⟩
theorem m13 : Cond.code yS_init prog_1_method_1_code 1 none ∈ gT := List.mem_filter.mpr ⟨List.mem_append_right _ (List.mem_append_left _ (List.mem_of_getElem? (l := tables_1_1) (i := 13) rfl)), rfl⟩
theorem m14 : Cond.methodLink "StreamSeal" 1 Lib.objectInit ∈ gT := List.mem_filter.mpr ⟨List.mem_append_right _ (List.mem_append_left _ (List.mem_of_getElem? (l := tables_1_1) (i := 14) rfl)), rfl⟩
theorem m15 : Cond.instanceMethod Lib.objectInit ∈ gT := List.mem_filter.mpr ⟨List.mem_append_right _ (List.mem_append_left _ (List.mem_of_getElem? (l := tables_1_1) (i := 15) rfl)), rfl⟩
theorem m16 : Cond.code Lib.objectInit ⟨#[0xb1]⟩ 1 none ∈ gT := List.mem_filter.mpr ⟨List.mem_append_right _ (List.mem_append_left _ (List.mem_of_getElem? (l := tables_1_1) (i := 16) rfl)), rfl⟩
theorem m17 : Cond.classLink "StreamSeal" 38 "StreamSeal$ChaCha20" ∈ gT := List.mem_filter.mpr ⟨List.mem_append_right _ (List.mem_append_left _ (List.mem_of_getElem? (l := tables_1_1) (i := 17) rfl)), rfl⟩
theorem m18 : Cond.instantiable "StreamSeal$ChaCha20" 2 ∈ gT := List.mem_filter.mpr ⟨List.mem_append_right _ (List.mem_append_left _ (List.mem_of_getElem? (l := tables_1_1) (i := 18) rfl)), rfl⟩
theorem m19 : Cond.methodLink "StreamSeal" 40 yC_init ∈ gT := List.mem_filter.mpr ⟨List.mem_append_right _ (List.mem_append_left _ (List.mem_of_getElem? (l := tables_1_1) (i := 19) rfl)), rfl⟩
theorem m20 : Cond.instanceMethod yC_init ∈ gT := List.mem_filter.mpr ⟨List.mem_append_right _ (List.mem_append_left _ (List.mem_of_getElem? (l := tables_1_1) (i := 20) rfl)), rfl⟩
theorem m21 : Cond.code yC_init prog_2_method_1_code 1 none ∈ gT := List.mem_filter.mpr ⟨List.mem_append_right _ (List.mem_append_left _ (List.mem_of_getElem? (l := tables_1_1) (i := 21) rfl)), rfl⟩
theorem m22 : Cond.methodLink "StreamSeal$ChaCha20" 1 Lib.objectInit ∈ gT := List.mem_filter.mpr ⟨List.mem_append_right _ (List.mem_append_left _ (List.mem_of_getElem? (l := tables_1_1) (i := 22) rfl)), rfl⟩
theorem m23 : Cond.fieldLink "StreamSeal$ChaCha20" 9 "StreamSeal$ChaCha20" "first" "[I" ∈ gT := List.mem_filter.mpr ⟨List.mem_append_right _ (List.mem_append_left _ (List.mem_of_getElem? (l := tables_1_1) (i := 23) rfl)), rfl⟩
theorem m24 : Cond.fieldLink "StreamSeal$ChaCha20" 13 "StreamSeal$ChaCha20" "mixed" "[I" ∈ gT := List.mem_filter.mpr ⟨List.mem_append_right _ (List.mem_append_left _ (List.mem_of_getElem? (l := tables_1_1) (i := 24) rfl)), rfl⟩
theorem m25 : Cond.laysFinal "StreamSeal$ChaCha20" "StreamSeal$ChaCha20" "first" "[I" ∈ gT := List.mem_filter.mpr ⟨List.mem_append_right _ (List.mem_append_left _ (List.mem_of_getElem? (l := tables_1_1) (i := 25) rfl)), rfl⟩
theorem m27 : Cond.laysFinal "StreamSeal$ChaCha20" "StreamSeal$ChaCha20" "mixed" "[I" ∈ gT := List.mem_filter.mpr ⟨List.mem_append_right _ (List.mem_append_left _ (List.mem_of_getElem? (l := tables_1_1) (i := 27) rfl)), rfl⟩
theorem m30 : Cond.arrayClass FieldType.byte ∈ gT := List.mem_filter.mpr ⟨List.mem_append_right _ (List.mem_append_left _ (List.mem_of_getElem? (l := tables_1_1) (i := 30) rfl)), rfl⟩
theorem m31 : Cond.arrayClass FieldType.int ∈ gT := List.mem_filter.mpr ⟨List.mem_append_right _ (List.mem_append_left _ (List.mem_of_getElem? (l := tables_1_1) (i := 31) rfl)), rfl⟩
theorem m32 : Cond.classLink "StreamSeal" 45 "StreamSeal$Poly1305" ∈ gT := List.mem_filter.mpr ⟨List.mem_append_right _ (List.mem_append_left _ (List.mem_of_getElem? (l := tables_1_1) (i := 32) rfl)), rfl⟩
theorem m33 : Cond.instantiable "StreamSeal$Poly1305" 6 ∈ gT := List.mem_filter.mpr ⟨List.mem_append_right _ (List.mem_append_left _ (List.mem_of_getElem? (l := tables_1_1) (i := 33) rfl)), rfl⟩
theorem m34 : Cond.methodLink "StreamSeal" 47 yP_init ∈ gT := List.mem_filter.mpr ⟨List.mem_append_right _ (List.mem_append_left _ (List.mem_of_getElem? (l := tables_1_1) (i := 34) rfl)), rfl⟩
theorem m35 : Cond.instanceMethod yP_init ∈ gT := List.mem_filter.mpr ⟨List.mem_append_right _ (List.mem_append_left _ (List.mem_of_getElem? (l := tables_1_1) (i := 35) rfl)), rfl⟩
theorem m36 : Cond.code yP_init prog_3_method_1_code 1 none ∈ gT := List.mem_filter.mpr ⟨List.mem_append_right _ (List.mem_append_left _ (List.mem_of_getElem? (l := tables_1_1) (i := 36) rfl)), rfl⟩
theorem m37 : Cond.methodLink "StreamSeal$Poly1305" 1 Lib.objectInit ∈ gT := List.mem_filter.mpr ⟨List.mem_append_right _ (List.mem_append_left _ (List.mem_of_getElem? (l := tables_1_1) (i := 37) rfl)), rfl⟩
theorem m38 : Cond.fieldLink "StreamSeal$Poly1305" 9 "StreamSeal$Poly1305" "factor" "[J" ∈ gT := List.mem_filter.mpr ⟨List.mem_append_right _ (List.mem_append_left _ (List.mem_of_getElem? (l := tables_1_1) (i := 38) rfl)), rfl⟩
theorem m39 : Cond.fieldLink "StreamSeal$Poly1305" 13 "StreamSeal$Poly1305" "total" "[J" ∈ gT := List.mem_filter.mpr ⟨List.mem_append_right _ (List.mem_append_left _ (List.mem_of_getElem? (l := tables_1_1) (i := 39) rfl)), rfl⟩
theorem m40 : Cond.fieldLink "StreamSeal$Poly1305" 16 "StreamSeal$Poly1305" "product" "[J" ∈ gT := List.mem_filter.mpr ⟨List.mem_append_right _ (List.mem_append_left _ (List.mem_of_getElem? (l := tables_1_1) (i := 40) rfl)), rfl⟩
theorem m41 : Cond.fieldLink "StreamSeal$Poly1305" 19 "StreamSeal$Poly1305" "words" "[J" ∈ gT := List.mem_filter.mpr ⟨List.mem_append_right _ (List.mem_append_left _ (List.mem_of_getElem? (l := tables_1_1) (i := 41) rfl)), rfl⟩
theorem m42 : Cond.fieldLink "StreamSeal$Poly1305" 22 "StreamSeal$Poly1305" "last" "[I" ∈ gT := List.mem_filter.mpr ⟨List.mem_append_right _ (List.mem_append_left _ (List.mem_of_getElem? (l := tables_1_1) (i := 42) rfl)), rfl⟩
theorem m43 : Cond.fieldLink "StreamSeal$Poly1305" 26 "StreamSeal$Poly1305" "block" "[B" ∈ gT := List.mem_filter.mpr ⟨List.mem_append_right _ (List.mem_append_left _ (List.mem_of_getElem? (l := tables_1_1) (i := 43) rfl)), rfl⟩
theorem m44 : Cond.laysFinal "StreamSeal$Poly1305" "StreamSeal$Poly1305" "factor" "[J" ∈ gT := List.mem_filter.mpr ⟨List.mem_append_right _ (List.mem_append_left _ (List.mem_of_getElem? (l := tables_1_1) (i := 44) rfl)), rfl⟩
theorem m46 : Cond.laysFinal "StreamSeal$Poly1305" "StreamSeal$Poly1305" "total" "[J" ∈ gT := List.mem_filter.mpr ⟨List.mem_append_right _ (List.mem_append_left _ (List.mem_of_getElem? (l := tables_1_1) (i := 46) rfl)), rfl⟩
theorem m48 : Cond.laysFinal "StreamSeal$Poly1305" "StreamSeal$Poly1305" "product" "[J" ∈ gT := List.mem_filter.mpr ⟨List.mem_append_right _ (List.mem_append_left _ (List.mem_of_getElem? (l := tables_1_1) (i := 48) rfl)), rfl⟩
theorem m50 : Cond.laysFinal "StreamSeal$Poly1305" "StreamSeal$Poly1305" "words" "[J" ∈ gT := List.mem_filter.mpr ⟨List.mem_append_right _ (List.mem_append_left _ (List.mem_of_getElem? (l := tables_1_1) (i := 50) rfl)), rfl⟩
theorem m52 : Cond.laysFinal "StreamSeal$Poly1305" "StreamSeal$Poly1305" "last" "[I" ∈ gT := List.mem_filter.mpr ⟨List.mem_append_right _ (List.mem_append_left _ (List.mem_of_getElem? (l := tables_1_1) (i := 52) rfl)), rfl⟩
theorem m54 : Cond.laysFinal "StreamSeal$Poly1305" "StreamSeal$Poly1305" "block" "[B" ∈ gT := List.mem_filter.mpr ⟨List.mem_append_right _ (List.mem_append_left _ (List.mem_of_getElem? (l := tables_1_1) (i := 54) rfl)), rfl⟩
theorem m57 : Cond.arrayClass FieldType.long ∈ gT := List.mem_filter.mpr ⟨List.mem_append_right _ (List.mem_append_left _ (List.mem_of_getElem? (l := tables_1_1) (i := 57) rfl)), rfl⟩
theorem m58 : Cond.classLink "StreamSeal" 52 "StreamSeal$Sha256" ∈ gT := List.mem_filter.mpr ⟨List.mem_append_right _ (List.mem_append_left _ (List.mem_of_getElem? (l := tables_1_1) (i := 58) rfl)), rfl⟩
theorem m59 : Cond.instantiable "StreamSeal$Sha256" 6 ∈ gT := List.mem_filter.mpr ⟨List.mem_append_right _ (List.mem_append_left _ (List.mem_of_getElem? (l := tables_1_1) (i := 59) rfl)), rfl⟩
theorem m60 : Cond.methodLink "StreamSeal" 54 yH_init ∈ gT := List.mem_filter.mpr ⟨List.mem_append_right _ (List.mem_append_left _ (List.mem_of_getElem? (l := tables_1_1) (i := 60) rfl)), rfl⟩
theorem m61 : Cond.instanceMethod yH_init ∈ gT := List.mem_filter.mpr ⟨List.mem_append_right _ (List.mem_append_left _ (List.mem_of_getElem? (l := tables_1_1) (i := 61) rfl)), rfl⟩
theorem m62 : Cond.code yH_init prog_4_method_1_code 1 none ∈ gT := List.mem_filter.mpr ⟨List.mem_append_right _ (List.mem_append_left _ (List.mem_of_getElem? (l := tables_1_1) (i := 62) rfl)), rfl⟩
theorem m63 : Cond.methodLink "StreamSeal$Sha256" 1 Lib.objectInit ∈ gT := List.mem_filter.mpr ⟨List.mem_append_right _ (List.mem_append_left _ (List.mem_of_getElem? (l := tables_1_1) (i := 63) rfl)), rfl⟩
theorem m64 : Cond.fieldLink "StreamSeal$Sha256" 9 "StreamSeal$Sha256" "state" "[I" ∈ gT := List.mem_filter.mpr ⟨List.mem_append_right _ (List.mem_append_left _ (List.mem_of_getElem? (l := tables_1_1) (i := 64) rfl)), rfl⟩
theorem m65 : Cond.fieldLink "StreamSeal$Sha256" 13 "StreamSeal$Sha256" "schedule" "[I" ∈ gT := List.mem_filter.mpr ⟨List.mem_append_right _ (List.mem_append_left _ (List.mem_of_getElem? (l := tables_1_1) (i := 65) rfl)), rfl⟩
theorem m66 : Cond.fieldLink "StreamSeal$Sha256" 16 "StreamSeal$Sha256" "round" "[I" ∈ gT := List.mem_filter.mpr ⟨List.mem_append_right _ (List.mem_append_left _ (List.mem_of_getElem? (l := tables_1_1) (i := 66) rfl)), rfl⟩
theorem m67 : Cond.fieldLink "StreamSeal$Sha256" 19 "StreamSeal$Sha256" "block" "[B" ∈ gT := List.mem_filter.mpr ⟨List.mem_append_right _ (List.mem_append_left _ (List.mem_of_getElem? (l := tables_1_1) (i := 67) rfl)), rfl⟩
theorem m68 : Cond.fieldLink "StreamSeal$Sha256" 23 "StreamSeal$Sha256" "filled" "I" ∈ gT := List.mem_filter.mpr ⟨List.mem_append_right _ (List.mem_append_left _ (List.mem_of_getElem? (l := tables_1_1) (i := 68) rfl)), rfl⟩
theorem m69 : Cond.fieldLink "StreamSeal$Sha256" 27 "StreamSeal$Sha256" "size" "I" ∈ gT := List.mem_filter.mpr ⟨List.mem_append_right _ (List.mem_append_left _ (List.mem_of_getElem? (l := tables_1_1) (i := 69) rfl)), rfl⟩
theorem m70 : Cond.laysFinal "StreamSeal$Sha256" "StreamSeal$Sha256" "state" "[I" ∈ gT := List.mem_filter.mpr ⟨List.mem_append_right _ (List.mem_append_left _ (List.mem_of_getElem? (l := tables_1_1) (i := 70) rfl)), rfl⟩
theorem m72 : Cond.laysFinal "StreamSeal$Sha256" "StreamSeal$Sha256" "schedule" "[I" ∈ gT := List.mem_filter.mpr ⟨List.mem_append_right _ (List.mem_append_left _ (List.mem_of_getElem? (l := tables_1_1) (i := 72) rfl)), rfl⟩
theorem m74 : Cond.laysFinal "StreamSeal$Sha256" "StreamSeal$Sha256" "round" "[I" ∈ gT := List.mem_filter.mpr ⟨List.mem_append_right _ (List.mem_append_left _ (List.mem_of_getElem? (l := tables_1_1) (i := 74) rfl)), rfl⟩
theorem m76 : Cond.laysFinal "StreamSeal$Sha256" "StreamSeal$Sha256" "block" "[B" ∈ gT := List.mem_filter.mpr ⟨List.mem_append_right _ (List.mem_append_left _ (List.mem_of_getElem? (l := tables_1_1) (i := 76) rfl)), rfl⟩
theorem m78 : Cond.lays "StreamSeal$Sha256" "StreamSeal$Sha256" "filled" "I" ∈ gT := List.mem_filter.mpr ⟨List.mem_append_right _ (List.mem_append_left _ (List.mem_of_getElem? (l := tables_1_1) (i := 78) rfl)), rfl⟩
theorem m80 : Cond.lays "StreamSeal$Sha256" "StreamSeal$Sha256" "size" "I" ∈ gT := List.mem_filter.mpr ⟨List.mem_append_right _ (List.mem_append_left _ (List.mem_of_getElem? (l := tables_1_1) (i := 80) rfl)), rfl⟩
theorem m83 : Cond.fieldLink "StreamSeal" 9 "StreamSeal" "tape" "[B" ∈ gT := List.mem_filter.mpr ⟨List.mem_append_right _ (List.mem_append_left _ (List.mem_of_getElem? (l := tables_1_1) (i := 83) rfl)), rfl⟩
theorem m84 : Cond.fieldLink "StreamSeal" 13 "StreamSeal" "tapeSize" "I" ∈ gT := List.mem_filter.mpr ⟨List.mem_append_right _ (List.mem_append_left _ (List.mem_of_getElem? (l := tables_1_1) (i := 84) rfl)), rfl⟩
theorem m85 : Cond.fieldLink "StreamSeal" 17 "StreamSeal" "out" "[B" ∈ gT := List.mem_filter.mpr ⟨List.mem_append_right _ (List.mem_append_left _ (List.mem_of_getElem? (l := tables_1_1) (i := 85) rfl)), rfl⟩
theorem m86 : Cond.fieldLink "StreamSeal" 20 "StreamSeal" "outSize" "I" ∈ gT := List.mem_filter.mpr ⟨List.mem_append_right _ (List.mem_append_left _ (List.mem_of_getElem? (l := tables_1_1) (i := 86) rfl)), rfl⟩
theorem m87 : Cond.fieldLink "StreamSeal" 23 "StreamSeal" "keyBytes" "[B" ∈ gT := List.mem_filter.mpr ⟨List.mem_append_right _ (List.mem_append_left _ (List.mem_of_getElem? (l := tables_1_1) (i := 87) rfl)), rfl⟩
theorem m88 : Cond.fieldLink "StreamSeal" 26 "StreamSeal" "nonceBytes" "[B" ∈ gT := List.mem_filter.mpr ⟨List.mem_append_right _ (List.mem_append_left _ (List.mem_of_getElem? (l := tables_1_1) (i := 88) rfl)), rfl⟩
theorem m89 : Cond.fieldLink "StreamSeal" 29 "StreamSeal" "streamBytes" "[B" ∈ gT := List.mem_filter.mpr ⟨List.mem_append_right _ (List.mem_append_left _ (List.mem_of_getElem? (l := tables_1_1) (i := 89) rfl)), rfl⟩
theorem m90 : Cond.fieldLink "StreamSeal" 32 "StreamSeal" "sizeBytes" "[B" ∈ gT := List.mem_filter.mpr ⟨List.mem_append_right _ (List.mem_append_left _ (List.mem_of_getElem? (l := tables_1_1) (i := 90) rfl)), rfl⟩
theorem m91 : Cond.fieldLink "StreamSeal" 35 "StreamSeal" "sumBytes" "[B" ∈ gT := List.mem_filter.mpr ⟨List.mem_append_right _ (List.mem_append_left _ (List.mem_of_getElem? (l := tables_1_1) (i := 91) rfl)), rfl⟩
theorem m92 : Cond.fieldLink "StreamSeal" 41 "StreamSeal" "streamer" "LStreamSeal$ChaCha20;" ∈ gT := List.mem_filter.mpr ⟨List.mem_append_right _ (List.mem_append_left _ (List.mem_of_getElem? (l := tables_1_1) (i := 92) rfl)), rfl⟩
theorem m93 : Cond.fieldLink "StreamSeal" 48 "StreamSeal" "summer" "LStreamSeal$Poly1305;" ∈ gT := List.mem_filter.mpr ⟨List.mem_append_right _ (List.mem_append_left _ (List.mem_of_getElem? (l := tables_1_1) (i := 93) rfl)), rfl⟩
theorem m94 : Cond.fieldLink "StreamSeal" 55 "StreamSeal" "digester" "LStreamSeal$Sha256;" ∈ gT := List.mem_filter.mpr ⟨List.mem_append_right _ (List.mem_append_left _ (List.mem_of_getElem? (l := tables_1_1) (i := 94) rfl)), rfl⟩
theorem m95 : Cond.laysFinal "StreamSeal" "StreamSeal" "tape" "[B" ∈ gT := List.mem_filter.mpr ⟨List.mem_append_right _ (List.mem_append_left _ (List.mem_of_getElem? (l := tables_1_1) (i := 95) rfl)), rfl⟩
theorem m97 : Cond.lays "StreamSeal" "StreamSeal" "tapeSize" "I" ∈ gT := List.mem_filter.mpr ⟨List.mem_append_right _ (List.mem_append_left _ (List.mem_of_getElem? (l := tables_1_1) (i := 97) rfl)), rfl⟩
theorem m99 : Cond.laysFinal "StreamSeal" "StreamSeal" "out" "[B" ∈ gT := List.mem_filter.mpr ⟨List.mem_append_right _ (List.mem_append_left _ (List.mem_of_getElem? (l := tables_1_1) (i := 99) rfl)), rfl⟩
theorem m101 : Cond.lays "StreamSeal" "StreamSeal" "outSize" "I" ∈ gT := List.mem_filter.mpr ⟨List.mem_append_right _ (List.mem_append_left _ (List.mem_of_getElem? (l := tables_1_1) (i := 101) rfl)), rfl⟩
theorem m103 : Cond.laysFinal "StreamSeal" "StreamSeal" "keyBytes" "[B" ∈ gT := List.mem_filter.mpr ⟨List.mem_append_right _ (List.mem_append_left _ (List.mem_of_getElem? (l := tables_1_1) (i := 103) rfl)), rfl⟩
theorem m105 : Cond.laysFinal "StreamSeal" "StreamSeal" "nonceBytes" "[B" ∈ gT := List.mem_filter.mpr ⟨List.mem_append_right _ (List.mem_append_left _ (List.mem_of_getElem? (l := tables_1_1) (i := 105) rfl)), rfl⟩
theorem m107 : Cond.laysFinal "StreamSeal" "StreamSeal" "streamBytes" "[B" ∈ gT := List.mem_filter.mpr ⟨List.mem_append_right _ (List.mem_append_left _ (List.mem_of_getElem? (l := tables_1_1) (i := 107) rfl)), rfl⟩
theorem m109 : Cond.laysFinal "StreamSeal" "StreamSeal" "sizeBytes" "[B" ∈ gT := List.mem_filter.mpr ⟨List.mem_append_right _ (List.mem_append_left _ (List.mem_of_getElem? (l := tables_1_1) (i := 109) rfl)), rfl⟩
theorem m111 : Cond.laysFinal "StreamSeal" "StreamSeal" "sumBytes" "[B" ∈ gT := List.mem_filter.mpr ⟨List.mem_append_right _ (List.mem_append_left _ (List.mem_of_getElem? (l := tables_1_1) (i := 111) rfl)), rfl⟩
theorem m113 : Cond.laysFinal "StreamSeal" "StreamSeal" "streamer" "LStreamSeal$ChaCha20;" ∈ gT := List.mem_filter.mpr ⟨List.mem_append_right _ (List.mem_append_left _ (List.mem_of_getElem? (l := tables_1_1) (i := 113) rfl)), rfl⟩
theorem m115 : Cond.laysFinal "StreamSeal" "StreamSeal" "summer" "LStreamSeal$Poly1305;" ∈ gT := List.mem_filter.mpr ⟨List.mem_append_right _ (List.mem_append_left _ (List.mem_of_getElem? (l := tables_1_1) (i := 115) rfl)), rfl⟩
theorem m117 : Cond.laysFinal "StreamSeal" "StreamSeal" "digester" "LStreamSeal$Sha256;" ∈ gT := List.mem_filter.mpr ⟨List.mem_append_right _ (List.mem_append_left _ (List.mem_of_getElem? (l := tables_1_1) (i := 117) rfl)), rfl⟩
theorem m120 : Cond.methodLink "StreamSealLaw" 13 yS_feed ∈ gT := List.mem_filter.mpr ⟨List.mem_append_right _ (List.mem_append_left _ (List.mem_of_getElem? (l := tables_1_1) (i := 120) rfl)), rfl⟩
theorem m121 : Cond.instanceMethod yS_feed ∈ gT := List.mem_filter.mpr ⟨List.mem_append_right _ (List.mem_append_left _ (List.mem_of_getElem? (l := tables_1_1) (i := 121) rfl)), rfl⟩
theorem m122 : Cond.selects "StreamSeal" yS_feed yS_feed ∈ gT := List.mem_filter.mpr ⟨List.mem_append_right _ (List.mem_append_left _ (List.mem_of_getElem? (l := tables_1_1) (i := 122) rfl)), rfl⟩
theorem m123 : Cond.code yS_feed prog_1_method_2_code 6 (some FieldType.int) ∈ gT := List.mem_filter.mpr ⟨List.mem_append_right _ (List.mem_append_left _ (List.mem_of_getElem? (l := tables_1_1) (i := 123) rfl)), rfl⟩
theorem m124 : Cond.methodLink "StreamSeal" 59 yS_writeHighestFirst ∈ gT := List.mem_filter.mpr ⟨List.mem_append_right _ (List.mem_append_left _ (List.mem_of_getElem? (l := tables_1_1) (i := 124) rfl)), rfl⟩
theorem m125 : Cond.static yS_writeHighestFirst ∈ gT := List.mem_filter.mpr ⟨List.mem_append_right _ (List.mem_append_left _ (List.mem_of_getElem? (l := tables_1_1) (i := 125) rfl)), rfl⟩
theorem m126 : Cond.code yS_writeHighestFirst prog_1_method_18_code 3 none ∈ gT := List.mem_filter.mpr ⟨List.mem_append_right _ (List.mem_append_left _ (List.mem_of_getElem? (l := tables_1_1) (i := 126) rfl)), rfl⟩
theorem m127 : Cond.methodLink "StreamSealLaw" 18 yS_end ∈ gT := List.mem_filter.mpr ⟨List.mem_append_right _ (List.mem_append_left _ (List.mem_of_getElem? (l := tables_1_1) (i := 127) rfl)), rfl⟩
theorem m128 : Cond.instanceMethod yS_end ∈ gT := List.mem_filter.mpr ⟨List.mem_append_right _ (List.mem_append_left _ (List.mem_of_getElem? (l := tables_1_1) (i := 128) rfl)), rfl⟩
theorem m129 : Cond.selects "StreamSeal" yS_end yS_end ∈ gT := List.mem_filter.mpr ⟨List.mem_append_right _ (List.mem_append_left _ (List.mem_of_getElem? (l := tables_1_1) (i := 129) rfl)), rfl⟩
theorem m130 : Cond.code yS_end prog_1_method_3_code 2 (some FieldType.int) ∈ gT := List.mem_filter.mpr ⟨List.mem_append_right _ (List.mem_append_left _ (List.mem_of_getElem? (l := tables_1_1) (i := 130) rfl)), rfl⟩
theorem m131 : Cond.methodLink "StreamSeal" 63 yS_tapeReaches ∈ gT := List.mem_filter.mpr ⟨List.mem_append_right _ (List.mem_append_left _ (List.mem_of_getElem? (l := tables_1_1) (i := 131) rfl)), rfl⟩
theorem m133 : Cond.instanceMethod yS_tapeReaches ∈ gT := List.mem_filter.mpr ⟨List.mem_append_right _ (List.mem_append_left _ (List.mem_of_getElem? (l := tables_1_1) (i := 133) rfl)), rfl⟩
theorem m134 : Cond.code yS_tapeReaches prog_1_method_14_code 2 (some FieldType.boolean) ∈ gT := List.mem_filter.mpr ⟨List.mem_append_right _ (List.mem_append_left _ (List.mem_of_getElem? (l := tables_1_1) (i := 134) rfl)), rfl⟩
theorem m135 : Cond.methodLink "StreamSealLaw" 23 yS_take ∈ gT := List.mem_filter.mpr ⟨List.mem_append_right _ (List.mem_append_left _ (List.mem_of_getElem? (l := tables_1_1) (i := 135) rfl)), rfl⟩
theorem m136 : Cond.instanceMethod yS_take ∈ gT := List.mem_filter.mpr ⟨List.mem_append_right _ (List.mem_append_left _ (List.mem_of_getElem? (l := tables_1_1) (i := 136) rfl)), rfl⟩
theorem m137 : Cond.selects "StreamSeal" yS_take yS_take ∈ gT := List.mem_filter.mpr ⟨List.mem_append_right _ (List.mem_append_left _ (List.mem_of_getElem? (l := tables_1_1) (i := 137) rfl)), rfl⟩
theorem m138 : Cond.code yS_take prog_1_method_4_code 2 (some FieldType.int) ∈ gT := List.mem_filter.mpr ⟨List.mem_append_right _ (List.mem_append_left _ (List.mem_of_getElem? (l := tables_1_1) (i := 138) rfl)), rfl⟩
theorem m139 : Cond.methodLink "StreamSeal" 67 arraycopyName ∈ gT := List.mem_filter.mpr ⟨List.mem_append_right _ (List.mem_append_left _ (List.mem_of_getElem? (l := tables_1_1) (i := 139) rfl)), rfl⟩
theorem m140 : Cond.static arraycopyName ∈ gT := List.mem_filter.mpr ⟨List.mem_append_right _ (List.mem_append_left _ (List.mem_of_getElem? (l := tables_1_1) (i := 140) rfl)), rfl⟩
theorem m141 : Cond.native arraycopyName ∈ gT := List.mem_filter.mpr ⟨List.mem_append_right _ (List.mem_append_left _ (List.mem_of_getElem? (l := tables_1_1) (i := 141) rfl)), rfl⟩
theorem m142 : Cond.methodLink "StreamSealLaw" 27 yS_key ∈ gT := List.mem_filter.mpr ⟨List.mem_append_right _ (List.mem_append_left _ (List.mem_of_getElem? (l := tables_1_1) (i := 142) rfl)), rfl⟩
theorem m143 : Cond.instanceMethod yS_key ∈ gT := List.mem_filter.mpr ⟨List.mem_append_right _ (List.mem_append_left _ (List.mem_of_getElem? (l := tables_1_1) (i := 143) rfl)), rfl⟩
theorem m144 : Cond.selects "StreamSeal" yS_key yS_key ∈ gT := List.mem_filter.mpr ⟨List.mem_append_right _ (List.mem_append_left _ (List.mem_of_getElem? (l := tables_1_1) (i := 144) rfl)), rfl⟩
theorem m145 : Cond.code yS_key prog_1_method_5_code 2 (some FieldType.int) ∈ gT := List.mem_filter.mpr ⟨List.mem_append_right _ (List.mem_append_left _ (List.mem_of_getElem? (l := tables_1_1) (i := 145) rfl)), rfl⟩
theorem m146 : Cond.methodLink "StreamSealLaw" 34 yS_nonce ∈ gT := List.mem_filter.mpr ⟨List.mem_append_right _ (List.mem_append_left _ (List.mem_of_getElem? (l := tables_1_1) (i := 146) rfl)), rfl⟩
theorem m147 : Cond.instanceMethod yS_nonce ∈ gT := List.mem_filter.mpr ⟨List.mem_append_right _ (List.mem_append_left _ (List.mem_of_getElem? (l := tables_1_1) (i := 147) rfl)), rfl⟩
theorem m148 : Cond.selects "StreamSeal" yS_nonce yS_nonce ∈ gT := List.mem_filter.mpr ⟨List.mem_append_right _ (List.mem_append_left _ (List.mem_of_getElem? (l := tables_1_1) (i := 148) rfl)), rfl⟩
theorem m149 : Cond.code yS_nonce prog_1_method_6_code 4 none ∈ gT := List.mem_filter.mpr ⟨List.mem_append_right _ (List.mem_append_left _ (List.mem_of_getElem? (l := tables_1_1) (i := 149) rfl)), rfl⟩
theorem m150 : Cond.methodLink "StreamSealLaw" 39 yS_stream ∈ gT := List.mem_filter.mpr ⟨List.mem_append_right _ (List.mem_append_left _ (List.mem_of_getElem? (l := tables_1_1) (i := 150) rfl)), rfl⟩
theorem m151 : Cond.instanceMethod yS_stream ∈ gT := List.mem_filter.mpr ⟨List.mem_append_right _ (List.mem_append_left _ (List.mem_of_getElem? (l := tables_1_1) (i := 151) rfl)), rfl⟩
theorem m152 : Cond.selects "StreamSeal" yS_stream yS_stream ∈ gT := List.mem_filter.mpr ⟨List.mem_append_right _ (List.mem_append_left _ (List.mem_of_getElem? (l := tables_1_1) (i := 152) rfl)), rfl⟩
theorem m153 : Cond.code yS_stream prog_1_method_7_code 2 (some FieldType.int) ∈ gT := List.mem_filter.mpr ⟨List.mem_append_right _ (List.mem_append_left _ (List.mem_of_getElem? (l := tables_1_1) (i := 153) rfl)), rfl⟩
theorem m154 : Cond.methodLink "StreamSeal" 73 yC_fill ∈ gT := List.mem_filter.mpr ⟨List.mem_append_right _ (List.mem_append_left _ (List.mem_of_getElem? (l := tables_1_1) (i := 154) rfl)), rfl⟩
theorem m155 : Cond.instanceMethod yC_fill ∈ gT := List.mem_filter.mpr ⟨List.mem_append_right _ (List.mem_append_left _ (List.mem_of_getElem? (l := tables_1_1) (i := 155) rfl)), rfl⟩
theorem m156 : Cond.selects "StreamSeal$ChaCha20" yC_fill yC_fill ∈ gT := List.mem_filter.mpr ⟨List.mem_append_right _ (List.mem_append_left _ (List.mem_of_getElem? (l := tables_1_1) (i := 156) rfl)), rfl⟩
theorem m157 : Cond.code yC_fill prog_2_method_2_code 6 none ∈ gT := List.mem_filter.mpr ⟨List.mem_append_right _ (List.mem_append_left _ (List.mem_of_getElem? (l := tables_1_1) (i := 157) rfl)), rfl⟩
theorem m158 : Cond.methodLink "StreamSeal$ChaCha20" 16 yC_lay ∈ gT := List.mem_filter.mpr ⟨List.mem_append_right _ (List.mem_append_left _ (List.mem_of_getElem? (l := tables_1_1) (i := 158) rfl)), rfl⟩
theorem m160 : Cond.instanceMethod yC_lay ∈ gT := List.mem_filter.mpr ⟨List.mem_append_right _ (List.mem_append_left _ (List.mem_of_getElem? (l := tables_1_1) (i := 160) rfl)), rfl⟩
theorem m161 : Cond.code yC_lay prog_2_method_3_code 5 none ∈ gT := List.mem_filter.mpr ⟨List.mem_append_right _ (List.mem_append_left _ (List.mem_of_getElem? (l := tables_1_1) (i := 161) rfl)), rfl⟩
theorem m162 : Cond.constant "StreamSeal$ChaCha20" 38 1634760805 ∈ gT := List.mem_filter.mpr ⟨List.mem_append_right _ (List.mem_append_left _ (List.mem_of_getElem? (l := tables_1_1) (i := 162) rfl)), rfl⟩
theorem m163 : Cond.constant "StreamSeal$ChaCha20" 39 857760878 ∈ gT := List.mem_filter.mpr ⟨List.mem_append_right _ (List.mem_append_left _ (List.mem_of_getElem? (l := tables_1_1) (i := 163) rfl)), rfl⟩
theorem m164 : Cond.constant "StreamSeal$ChaCha20" 40 2036477234 ∈ gT := List.mem_filter.mpr ⟨List.mem_append_right _ (List.mem_append_left _ (List.mem_of_getElem? (l := tables_1_1) (i := 164) rfl)), rfl⟩
theorem m165 : Cond.constant "StreamSeal$ChaCha20" 41 1797285236 ∈ gT := List.mem_filter.mpr ⟨List.mem_append_right _ (List.mem_append_left _ (List.mem_of_getElem? (l := tables_1_1) (i := 165) rfl)), rfl⟩
theorem m167 : Cond.static yS_readLowestFirst ∈ gT := List.mem_filter.mpr ⟨List.mem_append_right _ (List.mem_append_left _ (List.mem_of_getElem? (l := tables_1_1) (i := 167) rfl)), rfl⟩
theorem m168 : Cond.code yS_readLowestFirst prog_1_method_21_code 2 (some FieldType.int) ∈ gT := List.mem_filter.mpr ⟨List.mem_append_right _ (List.mem_append_left _ (List.mem_of_getElem? (l := tables_1_1) (i := 168) rfl)), rfl⟩
theorem m169 : Cond.methodLink "StreamSeal$ChaCha20" 20 arraycopyName ∈ gT := List.mem_filter.mpr ⟨List.mem_append_right _ (List.mem_append_left _ (List.mem_of_getElem? (l := tables_1_1) (i := 169) rfl)), rfl⟩
theorem m170 : Cond.methodLink "StreamSeal$ChaCha20" 26 yC_mixColumns ∈ gT := List.mem_filter.mpr ⟨List.mem_append_right _ (List.mem_append_left _ (List.mem_of_getElem? (l := tables_1_1) (i := 170) rfl)), rfl⟩
theorem m172 : Cond.instanceMethod yC_mixColumns ∈ gT := List.mem_filter.mpr ⟨List.mem_append_right _ (List.mem_append_left _ (List.mem_of_getElem? (l := tables_1_1) (i := 172) rfl)), rfl⟩
theorem m173 : Cond.code yC_mixColumns prog_2_method_4_code 1 none ∈ gT := List.mem_filter.mpr ⟨List.mem_append_right _ (List.mem_append_left _ (List.mem_of_getElem? (l := tables_1_1) (i := 173) rfl)), rfl⟩
theorem m174 : Cond.methodLink "StreamSeal$ChaCha20" 46 yC_mixQuarter ∈ gT := List.mem_filter.mpr ⟨List.mem_append_right _ (List.mem_append_left _ (List.mem_of_getElem? (l := tables_1_1) (i := 174) rfl)), rfl⟩
theorem m176 : Cond.instanceMethod yC_mixQuarter ∈ gT := List.mem_filter.mpr ⟨List.mem_append_right _ (List.mem_append_left _ (List.mem_of_getElem? (l := tables_1_1) (i := 176) rfl)), rfl⟩
theorem m177 : Cond.code yC_mixQuarter prog_2_method_6_code 5 none ∈ gT := List.mem_filter.mpr ⟨List.mem_append_right _ (List.mem_append_left _ (List.mem_of_getElem? (l := tables_1_1) (i := 177) rfl)), rfl⟩
theorem m179 : Cond.static yS_turnLeft ∈ gT := List.mem_filter.mpr ⟨List.mem_append_right _ (List.mem_append_left _ (List.mem_of_getElem? (l := tables_1_1) (i := 179) rfl)), rfl⟩
theorem m180 : Cond.code yS_turnLeft prog_1_method_22_code 2 (some FieldType.int) ∈ gT := List.mem_filter.mpr ⟨List.mem_append_right _ (List.mem_append_left _ (List.mem_of_getElem? (l := tables_1_1) (i := 180) rfl)), rfl⟩
theorem m181 : Cond.methodLink "StreamSeal$ChaCha20" 29 yC_mixDiagonals ∈ gT := List.mem_filter.mpr ⟨List.mem_append_right _ (List.mem_append_left _ (List.mem_of_getElem? (l := tables_1_1) (i := 181) rfl)), rfl⟩
theorem m183 : Cond.instanceMethod yC_mixDiagonals ∈ gT := List.mem_filter.mpr ⟨List.mem_append_right _ (List.mem_append_left _ (List.mem_of_getElem? (l := tables_1_1) (i := 183) rfl)), rfl⟩
theorem m184 : Cond.code yC_mixDiagonals prog_2_method_5_code 1 none ∈ gT := List.mem_filter.mpr ⟨List.mem_append_right _ (List.mem_append_left _ (List.mem_of_getElem? (l := tables_1_1) (i := 184) rfl)), rfl⟩
theorem m186 : Cond.static yS_writeLowestFirst ∈ gT := List.mem_filter.mpr ⟨List.mem_append_right _ (List.mem_append_left _ (List.mem_of_getElem? (l := tables_1_1) (i := 186) rfl)), rfl⟩
theorem m187 : Cond.code yS_writeLowestFirst prog_1_method_19_code 3 none ∈ gT := List.mem_filter.mpr ⟨List.mem_append_right _ (List.mem_append_left _ (List.mem_of_getElem? (l := tables_1_1) (i := 187) rfl)), rfl⟩
theorem m188 : Cond.methodLink "StreamSealLaw" 43 yS_sum ∈ gT := List.mem_filter.mpr ⟨List.mem_append_right _ (List.mem_append_left _ (List.mem_of_getElem? (l := tables_1_1) (i := 188) rfl)), rfl⟩
theorem m189 : Cond.instanceMethod yS_sum ∈ gT := List.mem_filter.mpr ⟨List.mem_append_right _ (List.mem_append_left _ (List.mem_of_getElem? (l := tables_1_1) (i := 189) rfl)), rfl⟩
theorem m190 : Cond.selects "StreamSeal" yS_sum yS_sum ∈ gT := List.mem_filter.mpr ⟨List.mem_append_right _ (List.mem_append_left _ (List.mem_of_getElem? (l := tables_1_1) (i := 190) rfl)), rfl⟩
theorem m191 : Cond.code yS_sum prog_1_method_8_code 1 (some FieldType.int) ∈ gT := List.mem_filter.mpr ⟨List.mem_append_right _ (List.mem_append_left _ (List.mem_of_getElem? (l := tables_1_1) (i := 191) rfl)), rfl⟩
theorem m192 : Cond.methodLink "StreamSeal" 77 yP_start ∈ gT := List.mem_filter.mpr ⟨List.mem_append_right _ (List.mem_append_left _ (List.mem_of_getElem? (l := tables_1_1) (i := 192) rfl)), rfl⟩
theorem m193 : Cond.instanceMethod yP_start ∈ gT := List.mem_filter.mpr ⟨List.mem_append_right _ (List.mem_append_left _ (List.mem_of_getElem? (l := tables_1_1) (i := 193) rfl)), rfl⟩
theorem m194 : Cond.selects "StreamSeal$Poly1305" yP_start yP_start ∈ gT := List.mem_filter.mpr ⟨List.mem_append_right _ (List.mem_append_left _ (List.mem_of_getElem? (l := tables_1_1) (i := 194) rfl)), rfl⟩
theorem m195 : Cond.code yP_start prog_3_method_2_code 3 none ∈ gT := List.mem_filter.mpr ⟨List.mem_append_right _ (List.mem_append_left _ (List.mem_of_getElem? (l := tables_1_1) (i := 195) rfl)), rfl⟩
theorem m196 : Cond.methodLink "StreamSeal$Poly1305" 30 arraycopyName ∈ gT := List.mem_filter.mpr ⟨List.mem_append_right _ (List.mem_append_left _ (List.mem_of_getElem? (l := tables_1_1) (i := 196) rfl)), rfl⟩
theorem m197 : Cond.methodLink "StreamSeal$Poly1305" 36 yP_clampBlock ∈ gT := List.mem_filter.mpr ⟨List.mem_append_right _ (List.mem_append_left _ (List.mem_of_getElem? (l := tables_1_1) (i := 197) rfl)), rfl⟩
theorem m199 : Cond.instanceMethod yP_clampBlock ∈ gT := List.mem_filter.mpr ⟨List.mem_append_right _ (List.mem_append_left _ (List.mem_of_getElem? (l := tables_1_1) (i := 199) rfl)), rfl⟩
theorem m200 : Cond.code yP_clampBlock prog_3_method_6_code 2 none ∈ gT := List.mem_filter.mpr ⟨List.mem_append_right _ (List.mem_append_left _ (List.mem_of_getElem? (l := tables_1_1) (i := 200) rfl)), rfl⟩
theorem m201 : Cond.methodLink "StreamSeal$Poly1305" 39 yP_blockPart ∈ gT := List.mem_filter.mpr ⟨List.mem_append_right _ (List.mem_append_left _ (List.mem_of_getElem? (l := tables_1_1) (i := 201) rfl)), rfl⟩
theorem m203 : Cond.instanceMethod yP_blockPart ∈ gT := List.mem_filter.mpr ⟨List.mem_append_right _ (List.mem_append_left _ (List.mem_of_getElem? (l := tables_1_1) (i := 203) rfl)), rfl⟩
theorem m204 : Cond.code yP_blockPart prog_3_method_7_code 4 (some FieldType.long) ∈ gT := List.mem_filter.mpr ⟨List.mem_append_right _ (List.mem_append_left _ (List.mem_of_getElem? (l := tables_1_1) (i := 204) rfl)), rfl⟩
theorem m206 : Cond.constantLong "StreamSeal$Poly1305" 65 4294967295 ∈ gT := List.mem_filter.mpr ⟨List.mem_append_right _ (List.mem_append_left _ (List.mem_of_getElem? (l := tables_1_1) (i := 206) rfl)), rfl⟩
theorem m207 : Cond.constantLong "StreamSeal$Poly1305" 71 67108863 ∈ gT := List.mem_filter.mpr ⟨List.mem_append_right _ (List.mem_append_left _ (List.mem_of_getElem? (l := tables_1_1) (i := 207) rfl)), rfl⟩
theorem m208 : Cond.methodLink "StreamSeal" 81 yP_add ∈ gT := List.mem_filter.mpr ⟨List.mem_append_right _ (List.mem_append_left _ (List.mem_of_getElem? (l := tables_1_1) (i := 208) rfl)), rfl⟩
theorem m209 : Cond.instanceMethod yP_add ∈ gT := List.mem_filter.mpr ⟨List.mem_append_right _ (List.mem_append_left _ (List.mem_of_getElem? (l := tables_1_1) (i := 209) rfl)), rfl⟩
theorem m210 : Cond.selects "StreamSeal$Poly1305" yP_add yP_add ∈ gT := List.mem_filter.mpr ⟨List.mem_append_right _ (List.mem_append_left _ (List.mem_of_getElem? (l := tables_1_1) (i := 210) rfl)), rfl⟩
theorem m211 : Cond.code yP_add prog_3_method_3_code 6 none ∈ gT := List.mem_filter.mpr ⟨List.mem_append_right _ (List.mem_append_left _ (List.mem_of_getElem? (l := tables_1_1) (i := 211) rfl)), rfl⟩
theorem m212 : Cond.methodLink "StreamSeal$Poly1305" 49 Lib.Math.min.name ∈ gT := List.mem_filter.mpr ⟨List.mem_append_right _ (List.mem_append_left _ (List.mem_of_getElem? (l := tables_1_1) (i := 212) rfl)), rfl⟩
theorem m213 : Cond.static Lib.Math.min.name ∈ gT := List.mem_filter.mpr ⟨List.mem_append_right _ (List.mem_append_left _ (List.mem_of_getElem? (l := tables_1_1) (i := 213) rfl)), rfl⟩
theorem m214 : Cond.code Lib.Math.min.name Lib.Math.min.code 2 (some FieldType.int) ∈ gT := List.mem_filter.mpr ⟨List.mem_append_right _ (List.mem_append_left _ (List.mem_of_getElem? (l := tables_1_1) (i := 214) rfl)), rfl⟩
theorem m215 : Cond.methodLink "StreamSeal$Poly1305" 55 yP_addBlock ∈ gT := List.mem_filter.mpr ⟨List.mem_append_right _ (List.mem_append_left _ (List.mem_of_getElem? (l := tables_1_1) (i := 215) rfl)), rfl⟩
theorem m217 : Cond.instanceMethod yP_addBlock ∈ gT := List.mem_filter.mpr ⟨List.mem_append_right _ (List.mem_append_left _ (List.mem_of_getElem? (l := tables_1_1) (i := 217) rfl)), rfl⟩
theorem m218 : Cond.code yP_addBlock prog_3_method_8_code 6 none ∈ gT := List.mem_filter.mpr ⟨List.mem_append_right _ (List.mem_append_left _ (List.mem_of_getElem? (l := tables_1_1) (i := 218) rfl)), rfl⟩
theorem m219 : Cond.methodLink "StreamSeal$Poly1305" 73 yA_fill ∈ gT := List.mem_filter.mpr ⟨List.mem_append_right _ (List.mem_append_left _ (List.mem_of_getElem? (l := tables_1_1) (i := 219) rfl)), rfl⟩
theorem m220 : Cond.static yA_fill ∈ gT := List.mem_filter.mpr ⟨List.mem_append_right _ (List.mem_append_left _ (List.mem_of_getElem? (l := tables_1_1) (i := 220) rfl)), rfl⟩
theorem m221 : Cond.code yA_fill prog_9_method_109_code 4 none ∈ gT := List.mem_filter.mpr ⟨List.mem_append_right _ (List.mem_append_left _ (List.mem_of_getElem? (l := tables_1_1) (i := 221) rfl)), rfl⟩
theorem m222 : Cond.methodLink "StreamSeal$Poly1305" 79 yP_multiply ∈ gT := List.mem_filter.mpr ⟨List.mem_append_right _ (List.mem_append_left _ (List.mem_of_getElem? (l := tables_1_1) (i := 222) rfl)), rfl⟩
theorem m224 : Cond.instanceMethod yP_multiply ∈ gT := List.mem_filter.mpr ⟨List.mem_append_right _ (List.mem_append_left _ (List.mem_of_getElem? (l := tables_1_1) (i := 224) rfl)), rfl⟩
theorem m225 : Cond.code yP_multiply prog_3_method_9_code 7 none ∈ gT := List.mem_filter.mpr ⟨List.mem_append_right _ (List.mem_append_left _ (List.mem_of_getElem? (l := tables_1_1) (i := 225) rfl)), rfl⟩
theorem m226 : Cond.constantLong "StreamSeal$Poly1305" 82 5 ∈ gT := List.mem_filter.mpr ⟨List.mem_append_right _ (List.mem_append_left _ (List.mem_of_getElem? (l := tables_1_1) (i := 226) rfl)), rfl⟩
theorem m227 : Cond.methodLink "StreamSeal$Poly1305" 59 yP_carry ∈ gT := List.mem_filter.mpr ⟨List.mem_append_right _ (List.mem_append_left _ (List.mem_of_getElem? (l := tables_1_1) (i := 227) rfl)), rfl⟩
theorem m229 : Cond.instanceMethod yP_carry ∈ gT := List.mem_filter.mpr ⟨List.mem_append_right _ (List.mem_append_left _ (List.mem_of_getElem? (l := tables_1_1) (i := 229) rfl)), rfl⟩
theorem m230 : Cond.code yP_carry prog_3_method_10_code 6 none ∈ gT := List.mem_filter.mpr ⟨List.mem_append_right _ (List.mem_append_left _ (List.mem_of_getElem? (l := tables_1_1) (i := 230) rfl)), rfl⟩
theorem m231 : Cond.methodLink "StreamSeal" 84 yP_finish ∈ gT := List.mem_filter.mpr ⟨List.mem_append_right _ (List.mem_append_left _ (List.mem_of_getElem? (l := tables_1_1) (i := 231) rfl)), rfl⟩
theorem m232 : Cond.instanceMethod yP_finish ∈ gT := List.mem_filter.mpr ⟨List.mem_append_right _ (List.mem_append_left _ (List.mem_of_getElem? (l := tables_1_1) (i := 232) rfl)), rfl⟩
theorem m233 : Cond.selects "StreamSeal$Poly1305" yP_finish yP_finish ∈ gT := List.mem_filter.mpr ⟨List.mem_append_right _ (List.mem_append_left _ (List.mem_of_getElem? (l := tables_1_1) (i := 233) rfl)), rfl⟩
theorem m234 : Cond.code yP_finish prog_3_method_5_code 6 none ∈ gT := List.mem_filter.mpr ⟨List.mem_append_right _ (List.mem_append_left _ (List.mem_of_getElem? (l := tables_1_1) (i := 234) rfl)), rfl⟩
theorem m235 : Cond.methodLink "StreamSeal$Poly1305" 62 yP_takePrimeOff ∈ gT := List.mem_filter.mpr ⟨List.mem_append_right _ (List.mem_append_left _ (List.mem_of_getElem? (l := tables_1_1) (i := 235) rfl)), rfl⟩
theorem m237 : Cond.instanceMethod yP_takePrimeOff ∈ gT := List.mem_filter.mpr ⟨List.mem_append_right _ (List.mem_append_left _ (List.mem_of_getElem? (l := tables_1_1) (i := 237) rfl)), rfl⟩
theorem m238 : Cond.code yP_takePrimeOff prog_3_method_11_code 6 none ∈ gT := List.mem_filter.mpr ⟨List.mem_append_right _ (List.mem_append_left _ (List.mem_of_getElem? (l := tables_1_1) (i := 238) rfl)), rfl⟩
theorem m240 : Cond.methodLink "StreamSealLaw" 47 yS_seal ∈ gT := List.mem_filter.mpr ⟨List.mem_append_right _ (List.mem_append_right _ (List.mem_append_left _ (List.mem_of_getElem? (l := tables_1_2) (i := 0) rfl))), rfl⟩
theorem m241 : Cond.instanceMethod yS_seal ∈ gT := List.mem_filter.mpr ⟨List.mem_append_right _ (List.mem_append_right _ (List.mem_append_left _ (List.mem_of_getElem? (l := tables_1_2) (i := 1) rfl))), rfl⟩
theorem m242 : Cond.selects "StreamSeal" yS_seal yS_seal ∈ gT := List.mem_filter.mpr ⟨List.mem_append_right _ (List.mem_append_right _ (List.mem_append_left _ (List.mem_of_getElem? (l := tables_1_2) (i := 2) rfl))), rfl⟩
theorem m243 : Cond.code yS_seal prog_1_method_9_code 3 (some FieldType.int) ∈ gT := List.mem_filter.mpr ⟨List.mem_append_right _ (List.mem_append_right _ (List.mem_append_left _ (List.mem_of_getElem? (l := tables_1_2) (i := 3) rfl))), rfl⟩
theorem m244 : Cond.methodLink "StreamSeal" 88 yS_streamTapeToOut ∈ gT := List.mem_filter.mpr ⟨List.mem_append_right _ (List.mem_append_right _ (List.mem_append_left _ (List.mem_of_getElem? (l := tables_1_2) (i := 4) rfl))), rfl⟩
theorem m246 : Cond.instanceMethod yS_streamTapeToOut ∈ gT := List.mem_filter.mpr ⟨List.mem_append_right _ (List.mem_append_right _ (List.mem_append_left _ (List.mem_of_getElem? (l := tables_1_2) (i := 6) rfl))), rfl⟩
theorem m247 : Cond.code yS_streamTapeToOut prog_1_method_15_code 7 none ∈ gT := List.mem_filter.mpr ⟨List.mem_append_right _ (List.mem_append_right _ (List.mem_append_left _ (List.mem_of_getElem? (l := tables_1_2) (i := 7) rfl))), rfl⟩
theorem m248 : Cond.methodLink "StreamSeal" 108 Lib.Math.min.name ∈ gT := List.mem_filter.mpr ⟨List.mem_append_right _ (List.mem_append_right _ (List.mem_append_left _ (List.mem_of_getElem? (l := tables_1_2) (i := 8) rfl))), rfl⟩
theorem m249 : Cond.methodLink "StreamSeal" 92 yS_sumSealed ∈ gT := List.mem_filter.mpr ⟨List.mem_append_right _ (List.mem_append_right _ (List.mem_append_left _ (List.mem_of_getElem? (l := tables_1_2) (i := 9) rfl))), rfl⟩
theorem m251 : Cond.instanceMethod yS_sumSealed ∈ gT := List.mem_filter.mpr ⟨List.mem_append_right _ (List.mem_append_right _ (List.mem_append_left _ (List.mem_of_getElem? (l := tables_1_2) (i := 11) rfl))), rfl⟩
theorem m252 : Cond.code yS_sumSealed prog_1_method_16_code 5 none ∈ gT := List.mem_filter.mpr ⟨List.mem_append_right _ (List.mem_append_right _ (List.mem_append_left _ (List.mem_of_getElem? (l := tables_1_2) (i := 12) rfl))), rfl⟩
theorem m253 : Cond.methodLink "StreamSeal" 114 yP_addPadded ∈ gT := List.mem_filter.mpr ⟨List.mem_append_right _ (List.mem_append_right _ (List.mem_append_left _ (List.mem_of_getElem? (l := tables_1_2) (i := 13) rfl))), rfl⟩
theorem m254 : Cond.instanceMethod yP_addPadded ∈ gT := List.mem_filter.mpr ⟨List.mem_append_right _ (List.mem_append_right _ (List.mem_append_left _ (List.mem_of_getElem? (l := tables_1_2) (i := 14) rfl))), rfl⟩
theorem m255 : Cond.selects "StreamSeal$Poly1305" yP_addPadded yP_addPadded ∈ gT := List.mem_filter.mpr ⟨List.mem_append_right _ (List.mem_append_right _ (List.mem_append_left _ (List.mem_of_getElem? (l := tables_1_2) (i := 15) rfl))), rfl⟩
theorem m256 : Cond.code yP_addPadded prog_3_method_4_code 5 none ∈ gT := List.mem_filter.mpr ⟨List.mem_append_right _ (List.mem_append_right _ (List.mem_append_left _ (List.mem_of_getElem? (l := tables_1_2) (i := 16) rfl))), rfl⟩
theorem m257 : Cond.methodLink "StreamSeal" 117 yS_writeLowestFirst ∈ gT := List.mem_filter.mpr ⟨List.mem_append_right _ (List.mem_append_right _ (List.mem_append_left _ (List.mem_of_getElem? (l := tables_1_2) (i := 17) rfl))), rfl⟩
theorem m258 : Cond.methodLink "StreamSealLaw" 51 yS_open ∈ gT := List.mem_filter.mpr ⟨List.mem_append_right _ (List.mem_append_right _ (List.mem_append_left _ (List.mem_of_getElem? (l := tables_1_2) (i := 18) rfl))), rfl⟩
theorem m259 : Cond.instanceMethod yS_open ∈ gT := List.mem_filter.mpr ⟨List.mem_append_right _ (List.mem_append_right _ (List.mem_append_left _ (List.mem_of_getElem? (l := tables_1_2) (i := 19) rfl))), rfl⟩
theorem m260 : Cond.selects "StreamSeal" yS_open yS_open ∈ gT := List.mem_filter.mpr ⟨List.mem_append_right _ (List.mem_append_right _ (List.mem_append_left _ (List.mem_of_getElem? (l := tables_1_2) (i := 20) rfl))), rfl⟩
theorem m261 : Cond.code yS_open prog_1_method_10_code 3 (some FieldType.int) ∈ gT := List.mem_filter.mpr ⟨List.mem_append_right _ (List.mem_append_right _ (List.mem_append_left _ (List.mem_of_getElem? (l := tables_1_2) (i := 21) rfl))), rfl⟩
theorem m262 : Cond.methodLink "StreamSeal" 96 yS_sumStandsAt ∈ gT := List.mem_filter.mpr ⟨List.mem_append_right _ (List.mem_append_right _ (List.mem_append_left _ (List.mem_of_getElem? (l := tables_1_2) (i := 22) rfl))), rfl⟩
theorem m264 : Cond.instanceMethod yS_sumStandsAt ∈ gT := List.mem_filter.mpr ⟨List.mem_append_right _ (List.mem_append_right _ (List.mem_append_left _ (List.mem_of_getElem? (l := tables_1_2) (i := 24) rfl))), rfl⟩
theorem m265 : Cond.code yS_sumStandsAt prog_1_method_17_code 4 (some FieldType.boolean) ∈ gT := List.mem_filter.mpr ⟨List.mem_append_right _ (List.mem_append_right _ (List.mem_append_left _ (List.mem_of_getElem? (l := tables_1_2) (i := 25) rfl))), rfl⟩
theorem m266 : Cond.methodLink "StreamSealLaw" 55 yS_digest ∈ gT := List.mem_filter.mpr ⟨List.mem_append_right _ (List.mem_append_right _ (List.mem_append_left _ (List.mem_of_getElem? (l := tables_1_2) (i := 26) rfl))), rfl⟩
theorem m267 : Cond.instanceMethod yS_digest ∈ gT := List.mem_filter.mpr ⟨List.mem_append_right _ (List.mem_append_right _ (List.mem_append_left _ (List.mem_of_getElem? (l := tables_1_2) (i := 27) rfl))), rfl⟩
theorem m268 : Cond.selects "StreamSeal" yS_digest yS_digest ∈ gT := List.mem_filter.mpr ⟨List.mem_append_right _ (List.mem_append_right _ (List.mem_append_left _ (List.mem_of_getElem? (l := tables_1_2) (i := 28) rfl))), rfl⟩
theorem m269 : Cond.code yS_digest prog_1_method_11_code 1 (some FieldType.int) ∈ gT := List.mem_filter.mpr ⟨List.mem_append_right _ (List.mem_append_right _ (List.mem_append_left _ (List.mem_of_getElem? (l := tables_1_2) (i := 29) rfl))), rfl⟩
theorem m270 : Cond.methodLink "StreamSeal" 99 yH_start ∈ gT := List.mem_filter.mpr ⟨List.mem_append_right _ (List.mem_append_right _ (List.mem_append_left _ (List.mem_of_getElem? (l := tables_1_2) (i := 30) rfl))), rfl⟩
theorem m271 : Cond.instanceMethod yH_start ∈ gT := List.mem_filter.mpr ⟨List.mem_append_right _ (List.mem_append_right _ (List.mem_append_left _ (List.mem_of_getElem? (l := tables_1_2) (i := 31) rfl))), rfl⟩
theorem m272 : Cond.selects "StreamSeal$Sha256" yH_start yH_start ∈ gT := List.mem_filter.mpr ⟨List.mem_append_right _ (List.mem_append_right _ (List.mem_append_left _ (List.mem_of_getElem? (l := tables_1_2) (i := 32) rfl))), rfl⟩
theorem m273 : Cond.code yH_start prog_4_method_2_code 1 none ∈ gT := List.mem_filter.mpr ⟨List.mem_append_right _ (List.mem_append_right _ (List.mem_append_left _ (List.mem_of_getElem? (l := tables_1_2) (i := 33) rfl))), rfl⟩
theorem m274 : Cond.fieldLink "StreamSeal$Sha256" 30 "StreamSeal$Sha256" "FIRST" "[I" ∈ gT := List.mem_filter.mpr ⟨List.mem_append_right _ (List.mem_append_right _ (List.mem_append_left _ (List.mem_of_getElem? (l := tables_1_2) (i := 34) rfl))), rfl⟩
theorem m276 : Cond.methodLink "StreamSeal$Sha256" 33 arraycopyName ∈ gT := List.mem_filter.mpr ⟨List.mem_append_right _ (List.mem_append_right _ (List.mem_append_left _ (List.mem_of_getElem? (l := tables_1_2) (i := 36) rfl))), rfl⟩
theorem m277 : Cond.methodLink "StreamSeal" 101 yH_add ∈ gT := List.mem_filter.mpr ⟨List.mem_append_right _ (List.mem_append_right _ (List.mem_append_left _ (List.mem_of_getElem? (l := tables_1_2) (i := 37) rfl))), rfl⟩
theorem m278 : Cond.instanceMethod yH_add ∈ gT := List.mem_filter.mpr ⟨List.mem_append_right _ (List.mem_append_right _ (List.mem_append_left _ (List.mem_of_getElem? (l := tables_1_2) (i := 38) rfl))), rfl⟩
theorem m279 : Cond.selects "StreamSeal$Sha256" yH_add yH_add ∈ gT := List.mem_filter.mpr ⟨List.mem_append_right _ (List.mem_append_right _ (List.mem_append_left _ (List.mem_of_getElem? (l := tables_1_2) (i := 39) rfl))), rfl⟩
theorem m280 : Cond.code yH_add prog_4_method_3_code 4 none ∈ gT := List.mem_filter.mpr ⟨List.mem_append_right _ (List.mem_append_right _ (List.mem_append_left _ (List.mem_of_getElem? (l := tables_1_2) (i := 40) rfl))), rfl⟩
theorem m281 : Cond.methodLink "StreamSeal$Sha256" 39 yH_addByte ∈ gT := List.mem_filter.mpr ⟨List.mem_append_right _ (List.mem_append_right _ (List.mem_append_left _ (List.mem_of_getElem? (l := tables_1_2) (i := 41) rfl))), rfl⟩
theorem m283 : Cond.instanceMethod yH_addByte ∈ gT := List.mem_filter.mpr ⟨List.mem_append_right _ (List.mem_append_right _ (List.mem_append_left _ (List.mem_of_getElem? (l := tables_1_2) (i := 43) rfl))), rfl⟩
theorem m284 : Cond.code yH_addByte prog_4_method_6_code 2 none ∈ gT := List.mem_filter.mpr ⟨List.mem_append_right _ (List.mem_append_right _ (List.mem_append_left _ (List.mem_of_getElem? (l := tables_1_2) (i := 44) rfl))), rfl⟩
theorem m285 : Cond.methodLink "StreamSeal$Sha256" 49 yH_spreadBlock ∈ gT := List.mem_filter.mpr ⟨List.mem_append_right _ (List.mem_append_right _ (List.mem_append_left _ (List.mem_of_getElem? (l := tables_1_2) (i := 45) rfl))), rfl⟩
theorem m287 : Cond.instanceMethod yH_spreadBlock ∈ gT := List.mem_filter.mpr ⟨List.mem_append_right _ (List.mem_append_right _ (List.mem_append_left _ (List.mem_of_getElem? (l := tables_1_2) (i := 47) rfl))), rfl⟩
theorem m288 : Cond.code yH_spreadBlock prog_4_method_7_code 6 none ∈ gT := List.mem_filter.mpr ⟨List.mem_append_right _ (List.mem_append_right _ (List.mem_append_left _ (List.mem_of_getElem? (l := tables_1_2) (i := 48) rfl))), rfl⟩
theorem m290 : Cond.static yS_readHighestFirst ∈ gT := List.mem_filter.mpr ⟨List.mem_append_right _ (List.mem_append_right _ (List.mem_append_left _ (List.mem_of_getElem? (l := tables_1_2) (i := 50) rfl))), rfl⟩
theorem m291 : Cond.code yS_readHighestFirst prog_1_method_20_code 2 (some FieldType.int) ∈ gT := List.mem_filter.mpr ⟨List.mem_append_right _ (List.mem_append_right _ (List.mem_append_left _ (List.mem_of_getElem? (l := tables_1_2) (i := 51) rfl))), rfl⟩
theorem m293 : Cond.static yS_turnRight ∈ gT := List.mem_filter.mpr ⟨List.mem_append_right _ (List.mem_append_right _ (List.mem_append_left _ (List.mem_of_getElem? (l := tables_1_2) (i := 53) rfl))), rfl⟩
theorem m294 : Cond.code yS_turnRight prog_1_method_23_code 2 (some FieldType.int) ∈ gT := List.mem_filter.mpr ⟨List.mem_append_right _ (List.mem_append_right _ (List.mem_append_left _ (List.mem_of_getElem? (l := tables_1_2) (i := 54) rfl))), rfl⟩
theorem m295 : Cond.methodLink "StreamSeal$Sha256" 52 yH_mixBlock ∈ gT := List.mem_filter.mpr ⟨List.mem_append_right _ (List.mem_append_right _ (List.mem_append_left _ (List.mem_of_getElem? (l := tables_1_2) (i := 55) rfl))), rfl⟩
theorem m297 : Cond.instanceMethod yH_mixBlock ∈ gT := List.mem_filter.mpr ⟨List.mem_append_right _ (List.mem_append_right _ (List.mem_append_left _ (List.mem_of_getElem? (l := tables_1_2) (i := 57) rfl))), rfl⟩
theorem m298 : Cond.code yH_mixBlock prog_4_method_8_code 2 none ∈ gT := List.mem_filter.mpr ⟨List.mem_append_right _ (List.mem_append_right _ (List.mem_append_left _ (List.mem_of_getElem? (l := tables_1_2) (i := 58) rfl))), rfl⟩
theorem m299 : Cond.fieldLink "StreamSeal$Sha256" 63 "StreamSeal$Sha256" "ADDED" "[I" ∈ gT := List.mem_filter.mpr ⟨List.mem_append_right _ (List.mem_append_right _ (List.mem_append_left _ (List.mem_of_getElem? (l := tables_1_2) (i := 59) rfl))), rfl⟩
theorem m301 : Cond.methodLink "StreamSeal$Sha256" 66 yH_mixRound ∈ gT := List.mem_filter.mpr ⟨List.mem_append_right _ (List.mem_append_right _ (List.mem_append_left _ (List.mem_of_getElem? (l := tables_1_2) (i := 61) rfl))), rfl⟩
theorem m303 : Cond.instanceMethod yH_mixRound ∈ gT := List.mem_filter.mpr ⟨List.mem_append_right _ (List.mem_append_right _ (List.mem_append_left _ (List.mem_of_getElem? (l := tables_1_2) (i := 63) rfl))), rfl⟩
theorem m304 : Cond.code yH_mixRound prog_4_method_9_code 9 none ∈ gT := List.mem_filter.mpr ⟨List.mem_append_right _ (List.mem_append_right _ (List.mem_append_left _ (List.mem_of_getElem? (l := tables_1_2) (i := 64) rfl))), rfl⟩
theorem m305 : Cond.methodLink "StreamSeal" 103 yH_finish ∈ gT := List.mem_filter.mpr ⟨List.mem_append_right _ (List.mem_append_right _ (List.mem_append_left _ (List.mem_of_getElem? (l := tables_1_2) (i := 65) rfl))), rfl⟩
theorem m306 : Cond.instanceMethod yH_finish ∈ gT := List.mem_filter.mpr ⟨List.mem_append_right _ (List.mem_append_right _ (List.mem_append_left _ (List.mem_of_getElem? (l := tables_1_2) (i := 66) rfl))), rfl⟩
theorem m307 : Cond.selects "StreamSeal$Sha256" yH_finish yH_finish ∈ gT := List.mem_filter.mpr ⟨List.mem_append_right _ (List.mem_append_right _ (List.mem_append_left _ (List.mem_of_getElem? (l := tables_1_2) (i := 67) rfl))), rfl⟩
theorem m308 : Cond.code yH_finish prog_4_method_5_code 5 none ∈ gT := List.mem_filter.mpr ⟨List.mem_append_right _ (List.mem_append_right _ (List.mem_append_left _ (List.mem_of_getElem? (l := tables_1_2) (i := 68) rfl))), rfl⟩
theorem m310 : Cond.methodLink "StreamSealLaw" 59 yS_mac ∈ gT := List.mem_filter.mpr ⟨List.mem_append_right _ (List.mem_append_right _ (List.mem_append_left _ (List.mem_of_getElem? (l := tables_1_2) (i := 70) rfl))), rfl⟩
theorem m311 : Cond.instanceMethod yS_mac ∈ gT := List.mem_filter.mpr ⟨List.mem_append_right _ (List.mem_append_right _ (List.mem_append_left _ (List.mem_of_getElem? (l := tables_1_2) (i := 71) rfl))), rfl⟩
theorem m312 : Cond.selects "StreamSeal" yS_mac yS_mac ∈ gT := List.mem_filter.mpr ⟨List.mem_append_right _ (List.mem_append_right _ (List.mem_append_left _ (List.mem_of_getElem? (l := tables_1_2) (i := 72) rfl))), rfl⟩
theorem m313 : Cond.code yS_mac prog_1_method_12_code 1 (some FieldType.int) ∈ gT := List.mem_filter.mpr ⟨List.mem_append_right _ (List.mem_append_right _ (List.mem_append_left _ (List.mem_of_getElem? (l := tables_1_2) (i := 73) rfl))), rfl⟩
theorem m314 : Cond.methodLink "StreamSeal" 105 yH_addMasked ∈ gT := List.mem_filter.mpr ⟨List.mem_append_right _ (List.mem_append_right _ (List.mem_append_left _ (List.mem_of_getElem? (l := tables_1_2) (i := 74) rfl))), rfl⟩
theorem m315 : Cond.instanceMethod yH_addMasked ∈ gT := List.mem_filter.mpr ⟨List.mem_append_right _ (List.mem_append_right _ (List.mem_append_left _ (List.mem_of_getElem? (l := tables_1_2) (i := 75) rfl))), rfl⟩
theorem m316 : Cond.selects "StreamSeal$Sha256" yH_addMasked yH_addMasked ∈ gT := List.mem_filter.mpr ⟨List.mem_append_right _ (List.mem_append_right _ (List.mem_append_left _ (List.mem_of_getElem? (l := tables_1_2) (i := 76) rfl))), rfl⟩
theorem m317 : Cond.code yH_addMasked prog_4_method_4_code 4 none ∈ gT := List.mem_filter.mpr ⟨List.mem_append_right _ (List.mem_append_right _ (List.mem_append_left _ (List.mem_of_getElem? (l := tables_1_2) (i := 77) rfl))), rfl⟩
theorem m318 : Cond.methodLink "StreamSealLaw" 63 yS_octet ∈ gT := List.mem_filter.mpr ⟨List.mem_append_right _ (List.mem_append_right _ (List.mem_append_left _ (List.mem_of_getElem? (l := tables_1_2) (i := 78) rfl))), rfl⟩
theorem m319 : Cond.instanceMethod yS_octet ∈ gT := List.mem_filter.mpr ⟨List.mem_append_right _ (List.mem_append_right _ (List.mem_append_left _ (List.mem_of_getElem? (l := tables_1_2) (i := 79) rfl))), rfl⟩
theorem m320 : Cond.selects "StreamSeal" yS_octet yS_octet ∈ gT := List.mem_filter.mpr ⟨List.mem_append_right _ (List.mem_append_right _ (List.mem_append_left _ (List.mem_of_getElem? (l := tables_1_2) (i := 80) rfl))), rfl⟩
theorem m321 : Cond.code yS_octet prog_1_method_13_code 2 (some FieldType.int) ∈ gT := List.mem_filter.mpr ⟨List.mem_append_right _ (List.mem_append_right _ (List.mem_append_left _ (List.mem_of_getElem? (l := tables_1_2) (i := 81) rfl))), rfl⟩
theorem m322 : Cond.classLink "StreamSealLaw" 10 "StreamSealModel" ∈ gT := List.mem_filter.mpr ⟨List.mem_append_right _ (List.mem_append_right _ (List.mem_append_left _ (List.mem_of_getElem? (l := tables_1_2) (i := 82) rfl))), rfl⟩
theorem m323 : Cond.instantiable "StreamSealModel" 21 ∈ gT := List.mem_filter.mpr ⟨List.mem_append_right _ (List.mem_append_right _ (List.mem_append_left _ (List.mem_of_getElem? (l := tables_1_2) (i := 83) rfl))), rfl⟩
theorem m324 : Cond.methodLink "StreamSealLaw" 12 yM_init ∈ gT := List.mem_filter.mpr ⟨List.mem_append_right _ (List.mem_append_right _ (List.mem_append_left _ (List.mem_of_getElem? (l := tables_1_2) (i := 84) rfl))), rfl⟩
theorem m325 : Cond.instanceMethod yM_init ∈ gT := List.mem_filter.mpr ⟨List.mem_append_right _ (List.mem_append_right _ (List.mem_append_left _ (List.mem_of_getElem? (l := tables_1_2) (i := 85) rfl))), rfl⟩
theorem m326 : Cond.code yM_init prog_6_method_1_code 1 none ∈ gT := List.mem_filter.mpr ⟨List.mem_append_right _ (List.mem_append_right _ (List.mem_append_left _ (List.mem_of_getElem? (l := tables_1_2) (i := 86) rfl))), rfl⟩
theorem m327 : Cond.methodLink "StreamSealModel" 1 Lib.objectInit ∈ gT := List.mem_filter.mpr ⟨List.mem_append_right _ (List.mem_append_right _ (List.mem_append_left _ (List.mem_of_getElem? (l := tables_1_2) (i := 87) rfl))), rfl⟩
theorem m328 : Cond.fieldLink "StreamSealModel" 9 "StreamSealModel" "tape" "[B" ∈ gT := List.mem_filter.mpr ⟨List.mem_append_right _ (List.mem_append_right _ (List.mem_append_left _ (List.mem_of_getElem? (l := tables_1_2) (i := 88) rfl))), rfl⟩
theorem m329 : Cond.fieldLink "StreamSealModel" 121 "StreamSealModel" "tapeLength" "I" ∈ gT := List.mem_filter.mpr ⟨List.mem_append_right _ (List.mem_append_right _ (List.mem_append_left _ (List.mem_of_getElem? (l := tables_1_2) (i := 89) rfl))), rfl⟩
theorem m330 : Cond.fieldLink "StreamSealModel" 13 "StreamSealModel" "out" "[B" ∈ gT := List.mem_filter.mpr ⟨List.mem_append_right _ (List.mem_append_right _ (List.mem_append_left _ (List.mem_of_getElem? (l := tables_1_2) (i := 90) rfl))), rfl⟩
theorem m331 : Cond.fieldLink "StreamSealModel" 127 "StreamSealModel" "outCount" "I" ∈ gT := List.mem_filter.mpr ⟨List.mem_append_right _ (List.mem_append_right _ (List.mem_append_left _ (List.mem_of_getElem? (l := tables_1_2) (i := 91) rfl))), rfl⟩
theorem m332 : Cond.fieldLink "StreamSealModel" 16 "StreamSealModel" "key" "[B" ∈ gT := List.mem_filter.mpr ⟨List.mem_append_right _ (List.mem_append_right _ (List.mem_append_left _ (List.mem_of_getElem? (l := tables_1_2) (i := 92) rfl))), rfl⟩
theorem m333 : Cond.fieldLink "StreamSealModel" 19 "StreamSealModel" "nonce" "[B" ∈ gT := List.mem_filter.mpr ⟨List.mem_append_right _ (List.mem_append_right _ (List.mem_append_left _ (List.mem_of_getElem? (l := tables_1_2) (i := 93) rfl))), rfl⟩
theorem m334 : Cond.fieldLink "StreamSealModel" 22 "StreamSealModel" "row" "[B" ∈ gT := List.mem_filter.mpr ⟨List.mem_append_right _ (List.mem_append_right _ (List.mem_append_left _ (List.mem_of_getElem? (l := tables_1_2) (i := 94) rfl))), rfl⟩
theorem m335 : Cond.fieldLink "StreamSealModel" 63 "StreamSealModel" "rowCount" "I" ∈ gT := List.mem_filter.mpr ⟨List.mem_append_right _ (List.mem_append_right _ (List.mem_append_left _ (List.mem_of_getElem? (l := tables_1_2) (i := 95) rfl))), rfl⟩
theorem m336 : Cond.fieldLink "StreamSealModel" 25 "StreamSealModel" "h" "[J" ∈ gT := List.mem_filter.mpr ⟨List.mem_append_right _ (List.mem_append_right _ (List.mem_append_left _ (List.mem_of_getElem? (l := tables_1_2) (i := 96) rfl))), rfl⟩
theorem m337 : Cond.fieldLink "StreamSealModel" 29 "StreamSealModel" "w" "[J" ∈ gT := List.mem_filter.mpr ⟨List.mem_append_right _ (List.mem_append_right _ (List.mem_append_left _ (List.mem_of_getElem? (l := tables_1_2) (i := 97) rfl))), rfl⟩
theorem m338 : Cond.fieldLink "StreamSealModel" 32 "StreamSealModel" "one" "[B" ∈ gT := List.mem_filter.mpr ⟨List.mem_append_right _ (List.mem_append_right _ (List.mem_append_left _ (List.mem_of_getElem? (l := tables_1_2) (i := 98) rfl))), rfl⟩
theorem m339 : Cond.fieldLink "StreamSealModel" 35 "StreamSealModel" "v" "[I" ∈ gT := List.mem_filter.mpr ⟨List.mem_append_right _ (List.mem_append_right _ (List.mem_append_left _ (List.mem_of_getElem? (l := tables_1_2) (i := 99) rfl))), rfl⟩
theorem m340 : Cond.fieldLink "StreamSealModel" 39 "StreamSealModel" "begin" "[I" ∈ gT := List.mem_filter.mpr ⟨List.mem_append_right _ (List.mem_append_right _ (List.mem_append_left _ (List.mem_of_getElem? (l := tables_1_2) (i := 100) rfl))), rfl⟩
theorem m341 : Cond.fieldLink "StreamSealModel" 42 "StreamSealModel" "stream" "[B" ∈ gT := List.mem_filter.mpr ⟨List.mem_append_right _ (List.mem_append_right _ (List.mem_append_left _ (List.mem_of_getElem? (l := tables_1_2) (i := 101) rfl))), rfl⟩
theorem m342 : Cond.fieldLink "StreamSealModel" 45 "StreamSealModel" "sum" "[I" ∈ gT := List.mem_filter.mpr ⟨List.mem_append_right _ (List.mem_append_right _ (List.mem_append_left _ (List.mem_of_getElem? (l := tables_1_2) (i := 102) rfl))), rfl⟩
theorem m343 : Cond.fieldLink "StreamSealModel" 48 "StreamSealModel" "product" "[I" ∈ gT := List.mem_filter.mpr ⟨List.mem_append_right _ (List.mem_append_right _ (List.mem_append_left _ (List.mem_of_getElem? (l := tables_1_2) (i := 103) rfl))), rfl⟩
theorem m344 : Cond.fieldLink "StreamSealModel" 51 "StreamSealModel" "\x72" "[I" ∈ gT := List.mem_filter.mpr ⟨List.mem_append_right _ (List.mem_append_right _ (List.mem_append_left _ (List.mem_of_getElem? (l := tables_1_2) (i := 104) rfl))), rfl⟩
theorem m345 : Cond.fieldLink "StreamSealModel" 54 "StreamSealModel" "text" "[B" ∈ gT := List.mem_filter.mpr ⟨List.mem_append_right _ (List.mem_append_right _ (List.mem_append_left _ (List.mem_of_getElem? (l := tables_1_2) (i := 105) rfl))), rfl⟩
theorem m346 : Cond.fieldLink "StreamSealModel" 57 "StreamSealModel" "tag" "[B" ∈ gT := List.mem_filter.mpr ⟨List.mem_append_right _ (List.mem_append_right _ (List.mem_append_left _ (List.mem_of_getElem? (l := tables_1_2) (i := 106) rfl))), rfl⟩
theorem m347 : Cond.fieldLink "StreamSealModel" 60 "StreamSealModel" "above" "[I" ∈ gT := List.mem_filter.mpr ⟨List.mem_append_right _ (List.mem_append_right _ (List.mem_append_left _ (List.mem_of_getElem? (l := tables_1_2) (i := 107) rfl))), rfl⟩
theorem m348 : Cond.fieldLink "StreamSealModel" 109 "StreamSealModel" "texts" "I" ∈ gT := List.mem_filter.mpr ⟨List.mem_append_right _ (List.mem_append_right _ (List.mem_append_left _ (List.mem_of_getElem? (l := tables_1_2) (i := 108) rfl))), rfl⟩
theorem m349 : Cond.laysFinal "StreamSealModel" "StreamSealModel" "tape" "[B" ∈ gT := List.mem_filter.mpr ⟨List.mem_append_right _ (List.mem_append_right _ (List.mem_append_left _ (List.mem_of_getElem? (l := tables_1_2) (i := 109) rfl))), rfl⟩
theorem m351 : Cond.lays "StreamSealModel" "StreamSealModel" "tapeLength" "I" ∈ gT := List.mem_filter.mpr ⟨List.mem_append_right _ (List.mem_append_right _ (List.mem_append_left _ (List.mem_of_getElem? (l := tables_1_2) (i := 111) rfl))), rfl⟩
theorem m353 : Cond.laysFinal "StreamSealModel" "StreamSealModel" "out" "[B" ∈ gT := List.mem_filter.mpr ⟨List.mem_append_right _ (List.mem_append_right _ (List.mem_append_left _ (List.mem_of_getElem? (l := tables_1_2) (i := 113) rfl))), rfl⟩
theorem m355 : Cond.lays "StreamSealModel" "StreamSealModel" "outCount" "I" ∈ gT := List.mem_filter.mpr ⟨List.mem_append_right _ (List.mem_append_right _ (List.mem_append_left _ (List.mem_of_getElem? (l := tables_1_2) (i := 115) rfl))), rfl⟩
theorem m357 : Cond.laysFinal "StreamSealModel" "StreamSealModel" "key" "[B" ∈ gT := List.mem_filter.mpr ⟨List.mem_append_right _ (List.mem_append_right _ (List.mem_append_left _ (List.mem_of_getElem? (l := tables_1_2) (i := 117) rfl))), rfl⟩
theorem m359 : Cond.laysFinal "StreamSealModel" "StreamSealModel" "nonce" "[B" ∈ gT := List.mem_filter.mpr ⟨List.mem_append_right _ (List.mem_append_right _ (List.mem_append_left _ (List.mem_of_getElem? (l := tables_1_2) (i := 119) rfl))), rfl⟩
theorem m361 : Cond.laysFinal "StreamSealModel" "StreamSealModel" "row" "[B" ∈ gT := List.mem_filter.mpr ⟨List.mem_append_right _ (List.mem_append_right _ (List.mem_append_left _ (List.mem_of_getElem? (l := tables_1_2) (i := 121) rfl))), rfl⟩
theorem m363 : Cond.lays "StreamSealModel" "StreamSealModel" "rowCount" "I" ∈ gT := List.mem_filter.mpr ⟨List.mem_append_right _ (List.mem_append_right _ (List.mem_append_left _ (List.mem_of_getElem? (l := tables_1_2) (i := 123) rfl))), rfl⟩
theorem m365 : Cond.laysFinal "StreamSealModel" "StreamSealModel" "h" "[J" ∈ gT := List.mem_filter.mpr ⟨List.mem_append_right _ (List.mem_append_right _ (List.mem_append_left _ (List.mem_of_getElem? (l := tables_1_2) (i := 125) rfl))), rfl⟩
theorem m367 : Cond.laysFinal "StreamSealModel" "StreamSealModel" "w" "[J" ∈ gT := List.mem_filter.mpr ⟨List.mem_append_right _ (List.mem_append_right _ (List.mem_append_left _ (List.mem_of_getElem? (l := tables_1_2) (i := 127) rfl))), rfl⟩
theorem m369 : Cond.laysFinal "StreamSealModel" "StreamSealModel" "one" "[B" ∈ gT := List.mem_filter.mpr ⟨List.mem_append_right _ (List.mem_append_right _ (List.mem_append_left _ (List.mem_of_getElem? (l := tables_1_2) (i := 129) rfl))), rfl⟩
theorem m371 : Cond.laysFinal "StreamSealModel" "StreamSealModel" "v" "[I" ∈ gT := List.mem_filter.mpr ⟨List.mem_append_right _ (List.mem_append_right _ (List.mem_append_left _ (List.mem_of_getElem? (l := tables_1_2) (i := 131) rfl))), rfl⟩
theorem m373 : Cond.laysFinal "StreamSealModel" "StreamSealModel" "begin" "[I" ∈ gT := List.mem_filter.mpr ⟨List.mem_append_right _ (List.mem_append_right _ (List.mem_append_left _ (List.mem_of_getElem? (l := tables_1_2) (i := 133) rfl))), rfl⟩
theorem m375 : Cond.laysFinal "StreamSealModel" "StreamSealModel" "stream" "[B" ∈ gT := List.mem_filter.mpr ⟨List.mem_append_right _ (List.mem_append_right _ (List.mem_append_left _ (List.mem_of_getElem? (l := tables_1_2) (i := 135) rfl))), rfl⟩
theorem m377 : Cond.laysFinal "StreamSealModel" "StreamSealModel" "sum" "[I" ∈ gT := List.mem_filter.mpr ⟨List.mem_append_right _ (List.mem_append_right _ (List.mem_append_left _ (List.mem_of_getElem? (l := tables_1_2) (i := 137) rfl))), rfl⟩
theorem m379 : Cond.laysFinal "StreamSealModel" "StreamSealModel" "product" "[I" ∈ gT := List.mem_filter.mpr ⟨List.mem_append_right _ (List.mem_append_right _ (List.mem_append_left _ (List.mem_of_getElem? (l := tables_1_2) (i := 139) rfl))), rfl⟩
theorem m381 : Cond.laysFinal "StreamSealModel" "StreamSealModel" "\x72" "[I" ∈ gT := List.mem_filter.mpr ⟨List.mem_append_right _ (List.mem_append_right _ (List.mem_append_left _ (List.mem_of_getElem? (l := tables_1_2) (i := 141) rfl))), rfl⟩
theorem m383 : Cond.laysFinal "StreamSealModel" "StreamSealModel" "text" "[B" ∈ gT := List.mem_filter.mpr ⟨List.mem_append_right _ (List.mem_append_right _ (List.mem_append_left _ (List.mem_of_getElem? (l := tables_1_2) (i := 143) rfl))), rfl⟩
theorem m385 : Cond.laysFinal "StreamSealModel" "StreamSealModel" "tag" "[B" ∈ gT := List.mem_filter.mpr ⟨List.mem_append_right _ (List.mem_append_right _ (List.mem_append_left _ (List.mem_of_getElem? (l := tables_1_2) (i := 145) rfl))), rfl⟩
theorem m387 : Cond.laysFinal "StreamSealModel" "StreamSealModel" "above" "[I" ∈ gT := List.mem_filter.mpr ⟨List.mem_append_right _ (List.mem_append_right _ (List.mem_append_left _ (List.mem_of_getElem? (l := tables_1_2) (i := 147) rfl))), rfl⟩
theorem m389 : Cond.lays "StreamSealModel" "StreamSealModel" "texts" "I" ∈ gT := List.mem_filter.mpr ⟨List.mem_append_right _ (List.mem_append_right _ (List.mem_append_left _ (List.mem_of_getElem? (l := tables_1_2) (i := 149) rfl))), rfl⟩
theorem m392 : Cond.methodLink "StreamSealLaw" 17 yM_feed ∈ gT := List.mem_filter.mpr ⟨List.mem_append_right _ (List.mem_append_right _ (List.mem_append_left _ (List.mem_of_getElem? (l := tables_1_2) (i := 152) rfl))), rfl⟩
theorem m393 : Cond.instanceMethod yM_feed ∈ gT := List.mem_filter.mpr ⟨List.mem_append_right _ (List.mem_append_right _ (List.mem_append_left _ (List.mem_of_getElem? (l := tables_1_2) (i := 153) rfl))), rfl⟩
theorem m394 : Cond.selects "StreamSealModel" yM_feed yM_feed ∈ gT := List.mem_filter.mpr ⟨List.mem_append_right _ (List.mem_append_right _ (List.mem_append_left _ (List.mem_of_getElem? (l := tables_1_2) (i := 154) rfl))), rfl⟩
theorem m395 : Cond.code yM_feed prog_6_method_18_code 6 (some FieldType.int) ∈ gT := List.mem_filter.mpr ⟨List.mem_append_right _ (List.mem_append_right _ (List.mem_append_left _ (List.mem_of_getElem? (l := tables_1_2) (i := 155) rfl))), rfl⟩
theorem m396 : Cond.methodLink "StreamSealModel" 124 yM_put ∈ gT := List.mem_filter.mpr ⟨List.mem_append_right _ (List.mem_append_right _ (List.mem_append_left _ (List.mem_of_getElem? (l := tables_1_2) (i := 156) rfl))), rfl⟩
theorem m398 : Cond.instanceMethod yM_put ∈ gT := List.mem_filter.mpr ⟨List.mem_append_right _ (List.mem_append_right _ (List.mem_append_left _ (List.mem_of_getElem? (l := tables_1_2) (i := 158) rfl))), rfl⟩
theorem m399 : Cond.code yM_put prog_6_method_17_code 3 none ∈ gT := List.mem_filter.mpr ⟨List.mem_append_right _ (List.mem_append_right _ (List.mem_append_left _ (List.mem_of_getElem? (l := tables_1_2) (i := 159) rfl))), rfl⟩
theorem m400 : Cond.methodLink "StreamSealLaw" 22 yM_end ∈ gT := List.mem_filter.mpr ⟨List.mem_append_right _ (List.mem_append_right _ (List.mem_append_left _ (List.mem_of_getElem? (l := tables_1_2) (i := 160) rfl))), rfl⟩
theorem m401 : Cond.instanceMethod yM_end ∈ gT := List.mem_filter.mpr ⟨List.mem_append_right _ (List.mem_append_right _ (List.mem_append_left _ (List.mem_of_getElem? (l := tables_1_2) (i := 161) rfl))), rfl⟩
theorem m402 : Cond.selects "StreamSealModel" yM_end yM_end ∈ gT := List.mem_filter.mpr ⟨List.mem_append_right _ (List.mem_append_right _ (List.mem_append_left _ (List.mem_of_getElem? (l := tables_1_2) (i := 162) rfl))), rfl⟩
theorem m403 : Cond.code yM_end prog_6_method_19_code 2 (some FieldType.int) ∈ gT := List.mem_filter.mpr ⟨List.mem_append_right _ (List.mem_append_right _ (List.mem_append_left _ (List.mem_of_getElem? (l := tables_1_2) (i := 163) rfl))), rfl⟩
theorem m404 : Cond.methodLink "StreamSealLaw" 26 yM_take ∈ gT := List.mem_filter.mpr ⟨List.mem_append_right _ (List.mem_append_right _ (List.mem_append_left _ (List.mem_of_getElem? (l := tables_1_2) (i := 164) rfl))), rfl⟩
theorem m405 : Cond.instanceMethod yM_take ∈ gT := List.mem_filter.mpr ⟨List.mem_append_right _ (List.mem_append_right _ (List.mem_append_left _ (List.mem_of_getElem? (l := tables_1_2) (i := 165) rfl))), rfl⟩
theorem m406 : Cond.selects "StreamSealModel" yM_take yM_take ∈ gT := List.mem_filter.mpr ⟨List.mem_append_right _ (List.mem_append_right _ (List.mem_append_left _ (List.mem_of_getElem? (l := tables_1_2) (i := 166) rfl))), rfl⟩
theorem m407 : Cond.code yM_take prog_6_method_20_code 3 (some FieldType.int) ∈ gT := List.mem_filter.mpr ⟨List.mem_append_right _ (List.mem_append_right _ (List.mem_append_left _ (List.mem_of_getElem? (l := tables_1_2) (i := 167) rfl))), rfl⟩
theorem m408 : Cond.methodLink "StreamSealLaw" 31 yM_key ∈ gT := List.mem_filter.mpr ⟨List.mem_append_right _ (List.mem_append_right _ (List.mem_append_left _ (List.mem_of_getElem? (l := tables_1_2) (i := 168) rfl))), rfl⟩
theorem m409 : Cond.instanceMethod yM_key ∈ gT := List.mem_filter.mpr ⟨List.mem_append_right _ (List.mem_append_right _ (List.mem_append_left _ (List.mem_of_getElem? (l := tables_1_2) (i := 169) rfl))), rfl⟩
theorem m410 : Cond.selects "StreamSealModel" yM_key yM_key ∈ gT := List.mem_filter.mpr ⟨List.mem_append_right _ (List.mem_append_right _ (List.mem_append_left _ (List.mem_of_getElem? (l := tables_1_2) (i := 170) rfl))), rfl⟩
theorem m411 : Cond.code yM_key prog_6_method_21_code 3 (some FieldType.int) ∈ gT := List.mem_filter.mpr ⟨List.mem_append_right _ (List.mem_append_right _ (List.mem_append_left _ (List.mem_of_getElem? (l := tables_1_2) (i := 171) rfl))), rfl⟩
theorem m412 : Cond.methodLink "StreamSealLaw" 38 yM_nonce ∈ gT := List.mem_filter.mpr ⟨List.mem_append_right _ (List.mem_append_right _ (List.mem_append_left _ (List.mem_of_getElem? (l := tables_1_2) (i := 172) rfl))), rfl⟩
theorem m413 : Cond.instanceMethod yM_nonce ∈ gT := List.mem_filter.mpr ⟨List.mem_append_right _ (List.mem_append_right _ (List.mem_append_left _ (List.mem_of_getElem? (l := tables_1_2) (i := 173) rfl))), rfl⟩
theorem m414 : Cond.selects "StreamSealModel" yM_nonce yM_nonce ∈ gT := List.mem_filter.mpr ⟨List.mem_append_right _ (List.mem_append_right _ (List.mem_append_left _ (List.mem_of_getElem? (l := tables_1_2) (i := 174) rfl))), rfl⟩
theorem m415 : Cond.code yM_nonce prog_6_method_22_code 5 none ∈ gT := List.mem_filter.mpr ⟨List.mem_append_right _ (List.mem_append_right _ (List.mem_append_left _ (List.mem_of_getElem? (l := tables_1_2) (i := 175) rfl))), rfl⟩
theorem m416 : Cond.methodLink "StreamSealLaw" 42 yM_stream ∈ gT := List.mem_filter.mpr ⟨List.mem_append_right _ (List.mem_append_right _ (List.mem_append_left _ (List.mem_of_getElem? (l := tables_1_2) (i := 176) rfl))), rfl⟩
theorem m417 : Cond.instanceMethod yM_stream ∈ gT := List.mem_filter.mpr ⟨List.mem_append_right _ (List.mem_append_right _ (List.mem_append_left _ (List.mem_of_getElem? (l := tables_1_2) (i := 177) rfl))), rfl⟩
theorem m418 : Cond.selects "StreamSealModel" yM_stream yM_stream ∈ gT := List.mem_filter.mpr ⟨List.mem_append_right _ (List.mem_append_right _ (List.mem_append_left _ (List.mem_of_getElem? (l := tables_1_2) (i := 178) rfl))), rfl⟩
theorem m419 : Cond.code yM_stream prog_6_method_23_code 3 (some FieldType.int) ∈ gT := List.mem_filter.mpr ⟨List.mem_append_right _ (List.mem_append_right _ (List.mem_append_left _ (List.mem_of_getElem? (l := tables_1_2) (i := 179) rfl))), rfl⟩
theorem m420 : Cond.methodLink "StreamSealModel" 115 yM_block ∈ gT := List.mem_filter.mpr ⟨List.mem_append_right _ (List.mem_append_right _ (List.mem_append_left _ (List.mem_of_getElem? (l := tables_1_2) (i := 180) rfl))), rfl⟩
theorem m422 : Cond.instanceMethod yM_block ∈ gT := List.mem_filter.mpr ⟨List.mem_append_right _ (List.mem_append_right _ (List.mem_append_left _ (List.mem_of_getElem? (l := tables_1_2) (i := 182) rfl))), rfl⟩
theorem m423 : Cond.code yM_block prog_6_method_10_code 5 none ∈ gT := List.mem_filter.mpr ⟨List.mem_append_right _ (List.mem_append_right _ (List.mem_append_left _ (List.mem_of_getElem? (l := tables_1_2) (i := 183) rfl))), rfl⟩
theorem m424 : Cond.constant "StreamSealModel" 91 1634760805 ∈ gT := List.mem_filter.mpr ⟨List.mem_append_right _ (List.mem_append_right _ (List.mem_append_left _ (List.mem_of_getElem? (l := tables_1_2) (i := 184) rfl))), rfl⟩
theorem m425 : Cond.constant "StreamSealModel" 92 857760878 ∈ gT := List.mem_filter.mpr ⟨List.mem_append_right _ (List.mem_append_right _ (List.mem_append_left _ (List.mem_of_getElem? (l := tables_1_2) (i := 185) rfl))), rfl⟩
theorem m426 : Cond.constant "StreamSealModel" 93 2036477234 ∈ gT := List.mem_filter.mpr ⟨List.mem_append_right _ (List.mem_append_right _ (List.mem_append_left _ (List.mem_of_getElem? (l := tables_1_2) (i := 186) rfl))), rfl⟩
theorem m427 : Cond.constant "StreamSealModel" 94 1797285236 ∈ gT := List.mem_filter.mpr ⟨List.mem_append_right _ (List.mem_append_right _ (List.mem_append_left _ (List.mem_of_getElem? (l := tables_1_2) (i := 187) rfl))), rfl⟩
theorem m428 : Cond.methodLink "StreamSealModel" 95 yM_low ∈ gT := List.mem_filter.mpr ⟨List.mem_append_right _ (List.mem_append_right _ (List.mem_append_left _ (List.mem_of_getElem? (l := tables_1_2) (i := 188) rfl))), rfl⟩
theorem m429 : Cond.static yM_low ∈ gT := List.mem_filter.mpr ⟨List.mem_append_right _ (List.mem_append_right _ (List.mem_append_left _ (List.mem_of_getElem? (l := tables_1_2) (i := 189) rfl))), rfl⟩
theorem m430 : Cond.code yM_low prog_6_method_7_code 2 (some FieldType.int) ∈ gT := List.mem_filter.mpr ⟨List.mem_append_right _ (List.mem_append_right _ (List.mem_append_left _ (List.mem_of_getElem? (l := tables_1_2) (i := 190) rfl))), rfl⟩
theorem m431 : Cond.methodLink "StreamSealModel" 99 yM_mix ∈ gT := List.mem_filter.mpr ⟨List.mem_append_right _ (List.mem_append_right _ (List.mem_append_left _ (List.mem_of_getElem? (l := tables_1_2) (i := 191) rfl))), rfl⟩
theorem m433 : Cond.instanceMethod yM_mix ∈ gT := List.mem_filter.mpr ⟨List.mem_append_right _ (List.mem_append_right _ (List.mem_append_left _ (List.mem_of_getElem? (l := tables_1_2) (i := 193) rfl))), rfl⟩
theorem m434 : Cond.code yM_mix prog_6_method_8_code 5 none ∈ gT := List.mem_filter.mpr ⟨List.mem_append_right _ (List.mem_append_right _ (List.mem_append_left _ (List.mem_of_getElem? (l := tables_1_2) (i := 194) rfl))), rfl⟩
theorem m435 : Cond.methodLink "StreamSealModel" 87 yM_turned ∈ gT := List.mem_filter.mpr ⟨List.mem_append_right _ (List.mem_append_right _ (List.mem_append_left _ (List.mem_of_getElem? (l := tables_1_2) (i := 195) rfl))), rfl⟩
theorem m436 : Cond.static yM_turned ∈ gT := List.mem_filter.mpr ⟨List.mem_append_right _ (List.mem_append_right _ (List.mem_append_left _ (List.mem_of_getElem? (l := tables_1_2) (i := 196) rfl))), rfl⟩
theorem m437 : Cond.code yM_turned prog_6_method_9_code 2 (some FieldType.int) ∈ gT := List.mem_filter.mpr ⟨List.mem_append_right _ (List.mem_append_right _ (List.mem_append_left _ (List.mem_of_getElem? (l := tables_1_2) (i := 197) rfl))), rfl⟩
theorem m438 : Cond.methodLink "StreamSealLaw" 46 yM_sum ∈ gT := List.mem_filter.mpr ⟨List.mem_append_right _ (List.mem_append_right _ (List.mem_append_left _ (List.mem_of_getElem? (l := tables_1_2) (i := 198) rfl))), rfl⟩
theorem m439 : Cond.instanceMethod yM_sum ∈ gT := List.mem_filter.mpr ⟨List.mem_append_right _ (List.mem_append_right _ (List.mem_append_left _ (List.mem_of_getElem? (l := tables_1_2) (i := 199) rfl))), rfl⟩
theorem m440 : Cond.selects "StreamSealModel" yM_sum yM_sum ∈ gT := List.mem_filter.mpr ⟨List.mem_append_right _ (List.mem_append_right _ (List.mem_append_left _ (List.mem_of_getElem? (l := tables_1_2) (i := 200) rfl))), rfl⟩
theorem m441 : Cond.code yM_sum prog_6_method_25_code 2 (some FieldType.int) ∈ gT := List.mem_filter.mpr ⟨List.mem_append_right _ (List.mem_append_right _ (List.mem_append_left _ (List.mem_of_getElem? (l := tables_1_2) (i := 201) rfl))), rfl⟩
theorem m442 : Cond.methodLink "StreamSealModel" 117 yM_sumOf ∈ gT := List.mem_filter.mpr ⟨List.mem_append_right _ (List.mem_append_right _ (List.mem_append_left _ (List.mem_of_getElem? (l := tables_1_2) (i := 202) rfl))), rfl⟩
theorem m444 : Cond.instanceMethod yM_sumOf ∈ gT := List.mem_filter.mpr ⟨List.mem_append_right _ (List.mem_append_right _ (List.mem_append_left _ (List.mem_of_getElem? (l := tables_1_2) (i := 204) rfl))), rfl⟩
theorem m445 : Cond.code yM_sumOf prog_6_method_13_code 7 none ∈ gT := List.mem_filter.mpr ⟨List.mem_append_right _ (List.mem_append_right _ (List.mem_append_left _ (List.mem_of_getElem? (l := tables_1_2) (i := 205) rfl))), rfl⟩
theorem m446 : Cond.methodLink "StreamSealModel" 106 yM_settle ∈ gT := List.mem_filter.mpr ⟨List.mem_append_right _ (List.mem_append_right _ (List.mem_append_left _ (List.mem_of_getElem? (l := tables_1_2) (i := 206) rfl))), rfl⟩
theorem m448 : Cond.instanceMethod yM_settle ∈ gT := List.mem_filter.mpr ⟨List.mem_append_right _ (List.mem_append_right _ (List.mem_append_left _ (List.mem_of_getElem? (l := tables_1_2) (i := 208) rfl))), rfl⟩
theorem m449 : Cond.code yM_settle prog_6_method_12_code 3 none ∈ gT := List.mem_filter.mpr ⟨List.mem_append_right _ (List.mem_append_right _ (List.mem_append_left _ (List.mem_of_getElem? (l := tables_1_2) (i := 209) rfl))), rfl⟩
theorem m450 : Cond.methodLink "StreamSealModel" 103 yM_carry ∈ gT := List.mem_filter.mpr ⟨List.mem_append_right _ (List.mem_append_right _ (List.mem_append_left _ (List.mem_of_getElem? (l := tables_1_2) (i := 210) rfl))), rfl⟩
theorem m452 : Cond.instanceMethod yM_carry ∈ gT := List.mem_filter.mpr ⟨List.mem_append_right _ (List.mem_append_right _ (List.mem_append_left _ (List.mem_of_getElem? (l := tables_1_2) (i := 212) rfl))), rfl⟩
theorem m453 : Cond.code yM_carry prog_6_method_11_code 2 none ∈ gT := List.mem_filter.mpr ⟨List.mem_append_right _ (List.mem_append_right _ (List.mem_append_left _ (List.mem_of_getElem? (l := tables_1_2) (i := 213) rfl))), rfl⟩
theorem m454 : Cond.methodLink "StreamSealModel" 130 yM_tag ∈ gT := List.mem_filter.mpr ⟨List.mem_append_right _ (List.mem_append_right _ (List.mem_append_left _ (List.mem_of_getElem? (l := tables_1_2) (i := 214) rfl))), rfl⟩
theorem m456 : Cond.instanceMethod yM_tag ∈ gT := List.mem_filter.mpr ⟨List.mem_append_right _ (List.mem_append_right _ (List.mem_append_left _ (List.mem_of_getElem? (l := tables_1_2) (i := 216) rfl))), rfl⟩
theorem m457 : Cond.code yM_tag prog_6_method_24_code 2 (some FieldType.int) ∈ gT := List.mem_filter.mpr ⟨List.mem_append_right _ (List.mem_append_right _ (List.mem_append_left _ (List.mem_of_getElem? (l := tables_1_2) (i := 217) rfl))), rfl⟩
theorem m458 : Cond.methodLink "StreamSealLaw" 50 yM_seal ∈ gT := List.mem_filter.mpr ⟨List.mem_append_right _ (List.mem_append_right _ (List.mem_append_left _ (List.mem_of_getElem? (l := tables_1_2) (i := 218) rfl))), rfl⟩
theorem m459 : Cond.instanceMethod yM_seal ∈ gT := List.mem_filter.mpr ⟨List.mem_append_right _ (List.mem_append_right _ (List.mem_append_left _ (List.mem_of_getElem? (l := tables_1_2) (i := 219) rfl))), rfl⟩
theorem m460 : Cond.selects "StreamSealModel" yM_seal yM_seal ∈ gT := List.mem_filter.mpr ⟨List.mem_append_right _ (List.mem_append_right _ (List.mem_append_left _ (List.mem_of_getElem? (l := tables_1_2) (i := 220) rfl))), rfl⟩
theorem m461 : Cond.code yM_seal prog_6_method_26_code 3 (some FieldType.int) ∈ gT := List.mem_filter.mpr ⟨List.mem_append_right _ (List.mem_append_right _ (List.mem_append_left _ (List.mem_of_getElem? (l := tables_1_2) (i := 221) rfl))), rfl⟩
theorem m462 : Cond.methodLink "StreamSealModel" 133 yM_cover ∈ gT := List.mem_filter.mpr ⟨List.mem_append_right _ (List.mem_append_right _ (List.mem_append_left _ (List.mem_of_getElem? (l := tables_1_2) (i := 222) rfl))), rfl⟩
theorem m464 : Cond.instanceMethod yM_cover ∈ gT := List.mem_filter.mpr ⟨List.mem_append_right _ (List.mem_append_right _ (List.mem_append_left _ (List.mem_of_getElem? (l := tables_1_2) (i := 224) rfl))), rfl⟩
theorem m465 : Cond.code yM_cover prog_6_method_16_code 5 none ∈ gT := List.mem_filter.mpr ⟨List.mem_append_right _ (List.mem_append_right _ (List.mem_append_left _ (List.mem_of_getElem? (l := tables_1_2) (i := 225) rfl))), rfl⟩
theorem m466 : Cond.methodLink "StreamSealModel" 137 yM_seals ∈ gT := List.mem_filter.mpr ⟨List.mem_append_right _ (List.mem_append_right _ (List.mem_append_left _ (List.mem_of_getElem? (l := tables_1_2) (i := 226) rfl))), rfl⟩
theorem m468 : Cond.instanceMethod yM_seals ∈ gT := List.mem_filter.mpr ⟨List.mem_append_right _ (List.mem_append_right _ (List.mem_append_left _ (List.mem_of_getElem? (l := tables_1_2) (i := 228) rfl))), rfl⟩
theorem m469 : Cond.code yM_seals prog_6_method_15_code 6 none ∈ gT := List.mem_filter.mpr ⟨List.mem_append_right _ (List.mem_append_right _ (List.mem_append_left _ (List.mem_of_getElem? (l := tables_1_2) (i := 229) rfl))), rfl⟩
theorem m470 : Cond.methodLink "StreamSealModel" 112 yM_text ∈ gT := List.mem_filter.mpr ⟨List.mem_append_right _ (List.mem_append_right _ (List.mem_append_left _ (List.mem_of_getElem? (l := tables_1_2) (i := 230) rfl))), rfl⟩
theorem m472 : Cond.instanceMethod yM_text ∈ gT := List.mem_filter.mpr ⟨List.mem_append_right _ (List.mem_append_right _ (List.mem_append_left _ (List.mem_of_getElem? (l := tables_1_2) (i := 232) rfl))), rfl⟩
theorem m473 : Cond.code yM_text prog_6_method_14_code 5 none ∈ gT := List.mem_filter.mpr ⟨List.mem_append_right _ (List.mem_append_right _ (List.mem_append_left _ (List.mem_of_getElem? (l := tables_1_2) (i := 233) rfl))), rfl⟩
theorem m474 : Cond.methodLink "StreamSealLaw" 54 yM_open ∈ gT := List.mem_filter.mpr ⟨List.mem_append_right _ (List.mem_append_right _ (List.mem_append_left _ (List.mem_of_getElem? (l := tables_1_2) (i := 234) rfl))), rfl⟩
theorem m475 : Cond.instanceMethod yM_open ∈ gT := List.mem_filter.mpr ⟨List.mem_append_right _ (List.mem_append_right _ (List.mem_append_left _ (List.mem_of_getElem? (l := tables_1_2) (i := 235) rfl))), rfl⟩
theorem m476 : Cond.selects "StreamSealModel" yM_open yM_open ∈ gT := List.mem_filter.mpr ⟨List.mem_append_right _ (List.mem_append_right _ (List.mem_append_left _ (List.mem_of_getElem? (l := tables_1_2) (i := 236) rfl))), rfl⟩
theorem m477 : Cond.code yM_open prog_6_method_27_code 5 (some FieldType.int) ∈ gT := List.mem_filter.mpr ⟨List.mem_append_right _ (List.mem_append_right _ (List.mem_append_left _ (List.mem_of_getElem? (l := tables_1_2) (i := 237) rfl))), rfl⟩
theorem m478 : Cond.methodLink "StreamSealLaw" 58 yM_digest ∈ gT := List.mem_filter.mpr ⟨List.mem_append_right _ (List.mem_append_right _ (List.mem_append_left _ (List.mem_of_getElem? (l := tables_1_2) (i := 238) rfl))), rfl⟩
theorem m479 : Cond.instanceMethod yM_digest ∈ gT := List.mem_filter.mpr ⟨List.mem_append_right _ (List.mem_append_right _ (List.mem_append_left _ (List.mem_of_getElem? (l := tables_1_2) (i := 239) rfl))), rfl⟩
theorem m480 : Cond.selects "StreamSealModel" yM_digest yM_digest ∈ gT := List.mem_filter.mpr ⟨List.mem_append_right _ (List.mem_append_right _ (List.mem_append_right _ (List.mem_of_getElem? (l := tables_1_3) (i := 0) rfl))), rfl⟩
theorem m481 : Cond.code yM_digest prog_6_method_28_code 1 (some FieldType.int) ∈ gT := List.mem_filter.mpr ⟨List.mem_append_right _ (List.mem_append_right _ (List.mem_append_right _ (List.mem_of_getElem? (l := tables_1_3) (i := 1) rfl))), rfl⟩
theorem m482 : Cond.methodLink "StreamSealModel" 141 yM_addArr ∈ gT := List.mem_filter.mpr ⟨List.mem_append_right _ (List.mem_append_right _ (List.mem_append_right _ (List.mem_of_getElem? (l := tables_1_3) (i := 2) rfl))), rfl⟩
theorem m484 : Cond.instanceMethod yM_addArr ∈ gT := List.mem_filter.mpr ⟨List.mem_append_right _ (List.mem_append_right _ (List.mem_append_right _ (List.mem_of_getElem? (l := tables_1_3) (i := 4) rfl))), rfl⟩
theorem m485 : Cond.code yM_addArr prog_6_method_3_code 5 none ∈ gT := List.mem_filter.mpr ⟨List.mem_append_right _ (List.mem_append_right _ (List.mem_append_right _ (List.mem_of_getElem? (l := tables_1_3) (i := 5) rfl))), rfl⟩
theorem m486 : Cond.methodLink "StreamSealModel" 67 yM_add ∈ gT := List.mem_filter.mpr ⟨List.mem_append_right _ (List.mem_append_right _ (List.mem_append_right _ (List.mem_of_getElem? (l := tables_1_3) (i := 6) rfl))), rfl⟩
theorem m488 : Cond.instanceMethod yM_add ∈ gT := List.mem_filter.mpr ⟨List.mem_append_right _ (List.mem_append_right _ (List.mem_append_right _ (List.mem_of_getElem? (l := tables_1_3) (i := 8) rfl))), rfl⟩
theorem m489 : Cond.code yM_add prog_6_method_2_code 2 none ∈ gT := List.mem_filter.mpr ⟨List.mem_append_right _ (List.mem_append_right _ (List.mem_append_right _ (List.mem_of_getElem? (l := tables_1_3) (i := 9) rfl))), rfl⟩
theorem m490 : Cond.methodLink "StreamSealModel" 143 yM_hashTo ∈ gT := List.mem_filter.mpr ⟨List.mem_append_right _ (List.mem_append_right _ (List.mem_append_right _ (List.mem_of_getElem? (l := tables_1_3) (i := 10) rfl))), rfl⟩
theorem m492 : Cond.instanceMethod yM_hashTo ∈ gT := List.mem_filter.mpr ⟨List.mem_append_right _ (List.mem_append_right _ (List.mem_append_right _ (List.mem_of_getElem? (l := tables_1_3) (i := 12) rfl))), rfl⟩
theorem m493 : Cond.code yM_hashTo prog_6_method_6_code 5 none ∈ gT := List.mem_filter.mpr ⟨List.mem_append_right _ (List.mem_append_right _ (List.mem_append_right _ (List.mem_of_getElem? (l := tables_1_3) (i := 13) rfl))), rfl⟩
theorem m494 : Cond.fieldLink "StreamSealModel" 80 "StreamSealModel" "BEGIN" "[I" ∈ gT := List.mem_filter.mpr ⟨List.mem_append_right _ (List.mem_append_right _ (List.mem_append_right _ (List.mem_of_getElem? (l := tables_1_3) (i := 14) rfl))), rfl⟩
theorem m496 : Cond.constantLong "StreamSealModel" 71 4294967295 ∈ gT := List.mem_filter.mpr ⟨List.mem_append_right _ (List.mem_append_right _ (List.mem_append_right _ (List.mem_of_getElem? (l := tables_1_3) (i := 16) rfl))), rfl⟩
theorem m497 : Cond.methodLink "StreamSealModel" 83 yM_hblock ∈ gT := List.mem_filter.mpr ⟨List.mem_append_right _ (List.mem_append_right _ (List.mem_append_right _ (List.mem_of_getElem? (l := tables_1_3) (i := 17) rfl))), rfl⟩
theorem m499 : Cond.instanceMethod yM_hblock ∈ gT := List.mem_filter.mpr ⟨List.mem_append_right _ (List.mem_append_right _ (List.mem_append_right _ (List.mem_of_getElem? (l := tables_1_3) (i := 19) rfl))), rfl⟩
theorem m500 : Cond.code yM_hblock prog_6_method_5_code 25 none ∈ gT := List.mem_filter.mpr ⟨List.mem_append_right _ (List.mem_append_right _ (List.mem_append_right _ (List.mem_of_getElem? (l := tables_1_3) (i := 20) rfl))), rfl⟩
theorem m501 : Cond.methodLink "StreamSealModel" 73 yM_turn ∈ gT := List.mem_filter.mpr ⟨List.mem_append_right _ (List.mem_append_right _ (List.mem_append_right _ (List.mem_of_getElem? (l := tables_1_3) (i := 21) rfl))), rfl⟩
theorem m502 : Cond.static yM_turn ∈ gT := List.mem_filter.mpr ⟨List.mem_append_right _ (List.mem_append_right _ (List.mem_append_right _ (List.mem_of_getElem? (l := tables_1_3) (i := 22) rfl))), rfl⟩
theorem m503 : Cond.code yM_turn prog_6_method_4_code 3 (some FieldType.long) ∈ gT := List.mem_filter.mpr ⟨List.mem_append_right _ (List.mem_append_right _ (List.mem_append_right _ (List.mem_of_getElem? (l := tables_1_3) (i := 23) rfl))), rfl⟩
theorem m504 : Cond.fieldLink "StreamSealModel" 77 "StreamSealModel" "ROUND" "[I" ∈ gT := List.mem_filter.mpr ⟨List.mem_append_right _ (List.mem_append_right _ (List.mem_append_right _ (List.mem_of_getElem? (l := tables_1_3) (i := 24) rfl))), rfl⟩
theorem m506 : Cond.methodLink "StreamSealLaw" 62 yM_mac ∈ gT := List.mem_filter.mpr ⟨List.mem_append_right _ (List.mem_append_right _ (List.mem_append_right _ (List.mem_of_getElem? (l := tables_1_3) (i := 26) rfl))), rfl⟩
theorem m507 : Cond.instanceMethod yM_mac ∈ gT := List.mem_filter.mpr ⟨List.mem_append_right _ (List.mem_append_right _ (List.mem_append_right _ (List.mem_of_getElem? (l := tables_1_3) (i := 27) rfl))), rfl⟩
theorem m508 : Cond.selects "StreamSealModel" yM_mac yM_mac ∈ gT := List.mem_filter.mpr ⟨List.mem_append_right _ (List.mem_append_right _ (List.mem_append_right _ (List.mem_of_getElem? (l := tables_1_3) (i := 28) rfl))), rfl⟩
theorem m509 : Cond.code yM_mac prog_6_method_29_code 2 (some FieldType.int) ∈ gT := List.mem_filter.mpr ⟨List.mem_append_right _ (List.mem_append_right _ (List.mem_append_right _ (List.mem_of_getElem? (l := tables_1_3) (i := 29) rfl))), rfl⟩
theorem m510 : Cond.methodLink "StreamSealLaw" 66 yM_octet ∈ gT := List.mem_filter.mpr ⟨List.mem_append_right _ (List.mem_append_right _ (List.mem_append_right _ (List.mem_of_getElem? (l := tables_1_3) (i := 30) rfl))), rfl⟩
theorem m511 : Cond.instanceMethod yM_octet ∈ gT := List.mem_filter.mpr ⟨List.mem_append_right _ (List.mem_append_right _ (List.mem_append_right _ (List.mem_of_getElem? (l := tables_1_3) (i := 31) rfl))), rfl⟩
theorem m512 : Cond.selects "StreamSealModel" yM_octet yM_octet ∈ gT := List.mem_filter.mpr ⟨List.mem_append_right _ (List.mem_append_right _ (List.mem_append_right _ (List.mem_of_getElem? (l := tables_1_3) (i := 32) rfl))), rfl⟩
theorem m513 : Cond.code yM_octet prog_6_method_30_code 2 (some FieldType.int) ∈ gT := List.mem_filter.mpr ⟨List.mem_append_right _ (List.mem_append_right _ (List.mem_append_right _ (List.mem_of_getElem? (l := tables_1_3) (i := 33) rfl))), rfl⟩
theorem m514 : Cond.constantLong "StreamSealLaw" 32 4294967295 ∈ gT := List.mem_filter.mpr ⟨List.mem_append_right _ (List.mem_append_right _ (List.mem_append_right _ (List.mem_of_getElem? (l := tables_1_3) (i := 34) rfl))), rfl⟩
theorem ms0 : Cond.selects "StreamSeal" yS_tapeReaches yS_tapeReaches ∈ gT := List.mem_filter.mpr ⟨List.mem_append_left _ (List.mem_of_getElem? (l := k2_sels lw_privs) (i := 0) rfl), rfl⟩
theorem ms1 : Cond.selects "StreamSeal$ChaCha20" yC_lay yC_lay ∈ gT := List.mem_filter.mpr ⟨List.mem_append_left _ (List.mem_of_getElem? (l := k2_sels lw_privs) (i := 1) rfl), rfl⟩
theorem ms2 : Cond.selects "StreamSeal$ChaCha20" yC_mixColumns yC_mixColumns ∈ gT := List.mem_filter.mpr ⟨List.mem_append_left _ (List.mem_of_getElem? (l := k2_sels lw_privs) (i := 2) rfl), rfl⟩
theorem ms3 : Cond.selects "StreamSeal$ChaCha20" yC_mixQuarter yC_mixQuarter ∈ gT := List.mem_filter.mpr ⟨List.mem_append_left _ (List.mem_of_getElem? (l := k2_sels lw_privs) (i := 3) rfl), rfl⟩
theorem ms4 : Cond.selects "StreamSeal$ChaCha20" yC_mixDiagonals yC_mixDiagonals ∈ gT := List.mem_filter.mpr ⟨List.mem_append_left _ (List.mem_of_getElem? (l := k2_sels lw_privs) (i := 4) rfl), rfl⟩
theorem ms5 : Cond.selects "StreamSeal$Poly1305" yP_clampBlock yP_clampBlock ∈ gT := List.mem_filter.mpr ⟨List.mem_append_left _ (List.mem_of_getElem? (l := k2_sels lw_privs) (i := 5) rfl), rfl⟩
theorem ms6 : Cond.selects "StreamSeal$Poly1305" yP_blockPart yP_blockPart ∈ gT := List.mem_filter.mpr ⟨List.mem_append_left _ (List.mem_of_getElem? (l := k2_sels lw_privs) (i := 6) rfl), rfl⟩
theorem ms7 : Cond.selects "StreamSeal$Poly1305" yP_addBlock yP_addBlock ∈ gT := List.mem_filter.mpr ⟨List.mem_append_left _ (List.mem_of_getElem? (l := k2_sels lw_privs) (i := 7) rfl), rfl⟩
theorem ms8 : Cond.selects "StreamSeal$Poly1305" yP_multiply yP_multiply ∈ gT := List.mem_filter.mpr ⟨List.mem_append_left _ (List.mem_of_getElem? (l := k2_sels lw_privs) (i := 8) rfl), rfl⟩
theorem ms9 : Cond.selects "StreamSeal$Poly1305" yP_carry yP_carry ∈ gT := List.mem_filter.mpr ⟨List.mem_append_left _ (List.mem_of_getElem? (l := k2_sels lw_privs) (i := 9) rfl), rfl⟩
theorem ms10 : Cond.selects "StreamSeal$Poly1305" yP_takePrimeOff yP_takePrimeOff ∈ gT := List.mem_filter.mpr ⟨List.mem_append_left _ (List.mem_of_getElem? (l := k2_sels lw_privs) (i := 10) rfl), rfl⟩
theorem ms11 : Cond.selects "StreamSeal" yS_streamTapeToOut yS_streamTapeToOut ∈ gT := List.mem_filter.mpr ⟨List.mem_append_left _ (List.mem_of_getElem? (l := k2_sels lw_privs) (i := 11) rfl), rfl⟩
theorem ms12 : Cond.selects "StreamSeal" yS_sumSealed yS_sumSealed ∈ gT := List.mem_filter.mpr ⟨List.mem_append_left _ (List.mem_of_getElem? (l := k2_sels lw_privs) (i := 12) rfl), rfl⟩
theorem ms13 : Cond.selects "StreamSeal" yS_sumStandsAt yS_sumStandsAt ∈ gT := List.mem_filter.mpr ⟨List.mem_append_left _ (List.mem_of_getElem? (l := k2_sels lw_privs) (i := 13) rfl), rfl⟩
theorem ms14 : Cond.selects "StreamSeal$Sha256" yH_addByte yH_addByte ∈ gT := List.mem_filter.mpr ⟨List.mem_append_left _ (List.mem_of_getElem? (l := k2_sels lw_privs) (i := 14) rfl), rfl⟩
theorem ms15 : Cond.selects "StreamSeal$Sha256" yH_spreadBlock yH_spreadBlock ∈ gT := List.mem_filter.mpr ⟨List.mem_append_left _ (List.mem_of_getElem? (l := k2_sels lw_privs) (i := 15) rfl), rfl⟩
theorem ms16 : Cond.selects "StreamSeal$Sha256" yH_mixBlock yH_mixBlock ∈ gT := List.mem_filter.mpr ⟨List.mem_append_left _ (List.mem_of_getElem? (l := k2_sels lw_privs) (i := 16) rfl), rfl⟩
theorem ms17 : Cond.selects "StreamSeal$Sha256" yH_mixRound yH_mixRound ∈ gT := List.mem_filter.mpr ⟨List.mem_append_left _ (List.mem_of_getElem? (l := k2_sels lw_privs) (i := 17) rfl), rfl⟩
theorem ms18 : Cond.selects "StreamSealModel" yM_put yM_put ∈ gT := List.mem_filter.mpr ⟨List.mem_append_left _ (List.mem_of_getElem? (l := k2_sels lw_privs) (i := 18) rfl), rfl⟩
theorem ms19 : Cond.selects "StreamSealModel" yM_block yM_block ∈ gT := List.mem_filter.mpr ⟨List.mem_append_left _ (List.mem_of_getElem? (l := k2_sels lw_privs) (i := 19) rfl), rfl⟩
theorem ms20 : Cond.selects "StreamSealModel" yM_mix yM_mix ∈ gT := List.mem_filter.mpr ⟨List.mem_append_left _ (List.mem_of_getElem? (l := k2_sels lw_privs) (i := 20) rfl), rfl⟩
theorem ms21 : Cond.selects "StreamSealModel" yM_sumOf yM_sumOf ∈ gT := List.mem_filter.mpr ⟨List.mem_append_left _ (List.mem_of_getElem? (l := k2_sels lw_privs) (i := 21) rfl), rfl⟩
theorem ms22 : Cond.selects "StreamSealModel" yM_settle yM_settle ∈ gT := List.mem_filter.mpr ⟨List.mem_append_left _ (List.mem_of_getElem? (l := k2_sels lw_privs) (i := 22) rfl), rfl⟩
theorem ms23 : Cond.selects "StreamSealModel" yM_carry yM_carry ∈ gT := List.mem_filter.mpr ⟨List.mem_append_left _ (List.mem_of_getElem? (l := k2_sels lw_privs) (i := 23) rfl), rfl⟩
theorem ms24 : Cond.selects "StreamSealModel" yM_tag yM_tag ∈ gT := List.mem_filter.mpr ⟨List.mem_append_left _ (List.mem_of_getElem? (l := k2_sels lw_privs) (i := 24) rfl), rfl⟩
theorem ms25 : Cond.selects "StreamSealModel" yM_cover yM_cover ∈ gT := List.mem_filter.mpr ⟨List.mem_append_left _ (List.mem_of_getElem? (l := k2_sels lw_privs) (i := 25) rfl), rfl⟩
theorem ms26 : Cond.selects "StreamSealModel" yM_seals yM_seals ∈ gT := List.mem_filter.mpr ⟨List.mem_append_left _ (List.mem_of_getElem? (l := k2_sels lw_privs) (i := 26) rfl), rfl⟩
theorem ms27 : Cond.selects "StreamSealModel" yM_text yM_text ∈ gT := List.mem_filter.mpr ⟨List.mem_append_left _ (List.mem_of_getElem? (l := k2_sels lw_privs) (i := 27) rfl), rfl⟩
theorem ms28 : Cond.selects "StreamSealModel" yM_addArr yM_addArr ∈ gT := List.mem_filter.mpr ⟨List.mem_append_left _ (List.mem_of_getElem? (l := k2_sels lw_privs) (i := 28) rfl), rfl⟩
theorem ms29 : Cond.selects "StreamSealModel" yM_add yM_add ∈ gT := List.mem_filter.mpr ⟨List.mem_append_left _ (List.mem_of_getElem? (l := k2_sels lw_privs) (i := 29) rfl), rfl⟩
theorem ms30 : Cond.selects "StreamSealModel" yM_hashTo yM_hashTo ∈ gT := List.mem_filter.mpr ⟨List.mem_append_left _ (List.mem_of_getElem? (l := k2_sels lw_privs) (i := 30) rfl), rfl⟩
theorem ms31 : Cond.selects "StreamSealModel" yM_hblock yM_hblock ∈ gT := List.mem_filter.mpr ⟨List.mem_append_left _ (List.mem_of_getElem? (l := k2_sels lw_privs) (i := 31) rfl), rfl⟩
set_option maxRecDepth 20000 in
theorem inX0 : ∀ w ∈ u_ws RX0 TX0 2, w ∈ gT := by
  show ∀ w ∈ [(Cond.laysFinal "StreamSeal$ChaCha20" "StreamSeal$ChaCha20" "first" "[I"), (Cond.laysFinal "StreamSeal$ChaCha20" "StreamSeal$ChaCha20" "mixed" "[I")], w ∈ gT
  exact List.forall_mem_cons.mpr ⟨m25, List.forall_mem_cons.mpr ⟨m27, fun _ h => absurd h List.not_mem_nil⟩⟩
set_option maxRecDepth 20000 in
theorem inX1 : ∀ w ∈ u_ws RX1 TX1 6, w ∈ gT := by
  show ∀ w ∈ [(Cond.laysFinal "StreamSeal$Poly1305" "StreamSeal$Poly1305" "factor" "[J"), (Cond.laysFinal "StreamSeal$Poly1305" "StreamSeal$Poly1305" "total" "[J"), (Cond.laysFinal "StreamSeal$Poly1305" "StreamSeal$Poly1305" "product" "[J"), (Cond.laysFinal "StreamSeal$Poly1305" "StreamSeal$Poly1305" "words" "[J"), (Cond.laysFinal "StreamSeal$Poly1305" "StreamSeal$Poly1305" "last" "[I"), (Cond.laysFinal "StreamSeal$Poly1305" "StreamSeal$Poly1305" "block" "[B")], w ∈ gT
  exact List.forall_mem_cons.mpr ⟨m44, List.forall_mem_cons.mpr ⟨m46, List.forall_mem_cons.mpr ⟨m48, List.forall_mem_cons.mpr ⟨m50, List.forall_mem_cons.mpr ⟨m52, List.forall_mem_cons.mpr ⟨m54, fun _ h => absurd h List.not_mem_nil⟩⟩⟩⟩⟩⟩
set_option maxRecDepth 20000 in
theorem inX2 : ∀ w ∈ u_ws RX2 TX2 6, w ∈ gT := by
  show ∀ w ∈ [(Cond.laysFinal "StreamSeal$Sha256" "StreamSeal$Sha256" "state" "[I"), (Cond.laysFinal "StreamSeal$Sha256" "StreamSeal$Sha256" "schedule" "[I"), (Cond.laysFinal "StreamSeal$Sha256" "StreamSeal$Sha256" "round" "[I"), (Cond.laysFinal "StreamSeal$Sha256" "StreamSeal$Sha256" "block" "[B"), (Cond.lays "StreamSeal$Sha256" "StreamSeal$Sha256" "filled" "I"), (Cond.lays "StreamSeal$Sha256" "StreamSeal$Sha256" "size" "I")], w ∈ gT
  exact List.forall_mem_cons.mpr ⟨m70, List.forall_mem_cons.mpr ⟨m72, List.forall_mem_cons.mpr ⟨m74, List.forall_mem_cons.mpr ⟨m76, List.forall_mem_cons.mpr ⟨m78, List.forall_mem_cons.mpr ⟨m80, fun _ h => absurd h List.not_mem_nil⟩⟩⟩⟩⟩⟩
set_option maxRecDepth 20000 in
theorem inX3 : ∀ w ∈ u_ws RX3 TX3 12, w ∈ gT := by
  show ∀ w ∈ [(Cond.laysFinal "StreamSeal" "StreamSeal" "tape" "[B"), (Cond.lays "StreamSeal" "StreamSeal" "tapeSize" "I"), (Cond.laysFinal "StreamSeal" "StreamSeal" "out" "[B"), (Cond.lays "StreamSeal" "StreamSeal" "outSize" "I"), (Cond.laysFinal "StreamSeal" "StreamSeal" "keyBytes" "[B"), (Cond.laysFinal "StreamSeal" "StreamSeal" "nonceBytes" "[B"), (Cond.laysFinal "StreamSeal" "StreamSeal" "streamBytes" "[B"), (Cond.laysFinal "StreamSeal" "StreamSeal" "sizeBytes" "[B"), (Cond.laysFinal "StreamSeal" "StreamSeal" "sumBytes" "[B"), (Cond.laysFinal "StreamSeal" "StreamSeal" "streamer" "LStreamSeal$ChaCha20;"), (Cond.laysFinal "StreamSeal" "StreamSeal" "summer" "LStreamSeal$Poly1305;"), (Cond.laysFinal "StreamSeal" "StreamSeal" "digester" "LStreamSeal$Sha256;")], w ∈ gT
  exact List.forall_mem_cons.mpr ⟨m95, List.forall_mem_cons.mpr ⟨m97, List.forall_mem_cons.mpr ⟨m99, List.forall_mem_cons.mpr ⟨m101, List.forall_mem_cons.mpr ⟨m103, List.forall_mem_cons.mpr ⟨m105, List.forall_mem_cons.mpr ⟨m107, List.forall_mem_cons.mpr ⟨m109, List.forall_mem_cons.mpr ⟨m111, List.forall_mem_cons.mpr ⟨m113, List.forall_mem_cons.mpr ⟨m115, List.forall_mem_cons.mpr ⟨m117, fun _ h => absurd h List.not_mem_nil⟩⟩⟩⟩⟩⟩⟩⟩⟩⟩⟩⟩
set_option maxRecDepth 20000 in
theorem inX4 : ∀ w ∈ u_ws RX4 TX4 21, w ∈ gT := by
  show ∀ w ∈ [(Cond.laysFinal "StreamSealModel" "StreamSealModel" "tape" "[B"), (Cond.lays "StreamSealModel" "StreamSealModel" "tapeLength" "I"), (Cond.laysFinal "StreamSealModel" "StreamSealModel" "out" "[B"), (Cond.lays "StreamSealModel" "StreamSealModel" "outCount" "I"), (Cond.laysFinal "StreamSealModel" "StreamSealModel" "key" "[B"), (Cond.laysFinal "StreamSealModel" "StreamSealModel" "nonce" "[B"), (Cond.laysFinal "StreamSealModel" "StreamSealModel" "row" "[B"), (Cond.lays "StreamSealModel" "StreamSealModel" "rowCount" "I"), (Cond.laysFinal "StreamSealModel" "StreamSealModel" "h" "[J"), (Cond.laysFinal "StreamSealModel" "StreamSealModel" "w" "[J"), (Cond.laysFinal "StreamSealModel" "StreamSealModel" "one" "[B"), (Cond.laysFinal "StreamSealModel" "StreamSealModel" "v" "[I"), (Cond.laysFinal "StreamSealModel" "StreamSealModel" "begin" "[I"), (Cond.laysFinal "StreamSealModel" "StreamSealModel" "stream" "[B"), (Cond.laysFinal "StreamSealModel" "StreamSealModel" "sum" "[I"), (Cond.laysFinal "StreamSealModel" "StreamSealModel" "product" "[I"), (Cond.laysFinal "StreamSealModel" "StreamSealModel" "\x72" "[I"), (Cond.laysFinal "StreamSealModel" "StreamSealModel" "text" "[B"), (Cond.laysFinal "StreamSealModel" "StreamSealModel" "tag" "[B"), (Cond.laysFinal "StreamSealModel" "StreamSealModel" "above" "[I"), (Cond.lays "StreamSealModel" "StreamSealModel" "texts" "I")], w ∈ gT
  exact List.forall_mem_cons.mpr ⟨m349, List.forall_mem_cons.mpr ⟨m351, List.forall_mem_cons.mpr ⟨m353, List.forall_mem_cons.mpr ⟨m355, List.forall_mem_cons.mpr ⟨m357, List.forall_mem_cons.mpr ⟨m359, List.forall_mem_cons.mpr ⟨m361, List.forall_mem_cons.mpr ⟨m363, List.forall_mem_cons.mpr ⟨m365, List.forall_mem_cons.mpr ⟨m367, List.forall_mem_cons.mpr ⟨m369, List.forall_mem_cons.mpr ⟨m371, List.forall_mem_cons.mpr ⟨m373, List.forall_mem_cons.mpr ⟨m375, List.forall_mem_cons.mpr ⟨m377, List.forall_mem_cons.mpr ⟨m379, List.forall_mem_cons.mpr ⟨m381, List.forall_mem_cons.mpr ⟨m383, List.forall_mem_cons.mpr ⟨m385, List.forall_mem_cons.mpr ⟨m387, List.forall_mem_cons.mpr ⟨m389, fun _ h => absurd h List.not_mem_nil⟩⟩⟩⟩⟩⟩⟩⟩⟩⟩⟩⟩⟩⟩⟩⟩⟩⟩⟩⟩⟩
def tFIRST (j : Nat) : Int32 := [1779033703, -1150833019, 1013904242, -1521486534, 1359893119, -1694144372, 528734635, 1541459225].getD j 0
def tADDED (j : Nat) : Int32 := [1116352408, 1899447441, -1245643825, -373957723, 961987163, 1508970993, -1841331548, -1424204075, -670586216, 310598401, 607225278, 1426881987, 1925078388, -2132889090, -1680079193, -1046744716, -459576895, -272742522, 264347078, 604807628, 770255983, 1249150122, 1555081692, 1996064986, -1740746414, -1473132947, -1341970488, -1084653625, -958395405, -710438585, 113926993, 338241895, 666307205, 773529912, 1294757372, 1396182291, 1695183700, 1986661051, -2117940946, -1838011259, -1564481375, -1474664885, -1035236496, -949202525, -778901479, -694614492, -200395387, 275423344, 430227734, 506948616, 659060556, 883997877, 958139571, 1322822218, 1537002063, 1747873779, 1955562222, 2024104815, -2067236844, -1933114872, -1866530822, -1538233109, -1090935817, -965641998].getD j 0
def tBEGIN (j : Nat) : Int32 := [1779033703, -1150833019, 1013904242, -1521486534, 1359893119, -1694144372, 528734635, 1541459225].getD j 0
def tROUND (j : Nat) : Int32 := [1116352408, 1899447441, -1245643825, -373957723, 961987163, 1508970993, -1841331548, -1424204075, -670586216, 310598401, 607225278, 1426881987, 1925078388, -2132889090, -1680079193, -1046744716, -459576895, -272742522, 264347078, 604807628, 770255983, 1249150122, 1555081692, 1996064986, -1740746414, -1473132947, -1341970488, -1084653625, -958395405, -710438585, 113926993, 338241895, 666307205, 773529912, 1294757372, 1396182291, 1695183700, 1986661051, -2117940946, -1838011259, -1564481375, -1474664885, -1035236496, -949202525, -778901479, -694614492, -200395387, 275423344, 430227734, 506948616, 659060556, 883997877, 958139571, 1322822218, 1537002063, 1747873779, 1955562222, 2024104815, -2067236844, -1933114872, -1866530822, -1538233109, -1090935817, -965641998].getD j 0
def sT : List (String × String × String × FieldType × Nat × (Nat → Value)) := [("StreamSeal$Sha256", "FIRST", "[I", .int, 8, fun j => .int (tFIRST j)), ("StreamSeal$Sha256", "ADDED", "[I", .int, 64, fun j => .int (tADDED j)), ("StreamSealModel", "BEGIN", "[I", .int, 8, fun j => .int (tBEGIN j)), ("StreamSealModel", "ROUND", "[I", .int, 64, fun j => .int (tROUND j))]
def nW : List (String × Nat × MethodName × String) := [("StreamSeal$ChaCha20", 42, yS_readLowestFirst, "StreamSeal"), ("StreamSeal$ChaCha20", 50, yS_turnLeft, "StreamSeal"), ("StreamSeal$ChaCha20", 32, yS_writeLowestFirst, "StreamSeal"), ("StreamSeal$Poly1305", 43, yS_readLowestFirst, "StreamSeal"), ("StreamSeal$Poly1305", 67, yS_writeLowestFirst, "StreamSeal"), ("StreamSeal$Sha256", 55, yS_readHighestFirst, "StreamSeal"), ("StreamSeal$Sha256", 59, yS_turnRight, "StreamSeal"), ("StreamSeal$Sha256", 43, yS_writeHighestFirst, "StreamSeal")]
end
section
def cT (y : MethodName) (c : ByteArray) (n : Nat) (ret : Option FieldType) : List Cond := .code y c n ret :: gT
theorem cT_in {y : MethodName} {c : ByteArray} {n : Nat} {ret : Option FieldType} : ∀ w ∈ gT, w ∈ cT y c n ret := fun _ h => List.mem_cons_of_mem _ h
theorem gdT {y : MethodName} {c : ByteArray} {n : Nat} {ret : Option FieldType} (h : Cond.code y c n ret ∈ gT) : GoodIn gT (cT y c n ret) := fun w hw => (List.mem_cons.mp hw).elim (fun e => e ▸ gT_good _ h) (fun e => gT_good _ e)
theorem gd_app {a b : List Cond} (ha : ∀ w ∈ a, w ∈ gT) (hb : GoodIn gT b) : GoodIn gT (a ++ b) := fun w h => (List.mem_append.mp h).elim (fun e => gT_good _ (ha w e)) (hb w)
theorem gdV {own C : String} {idx : Nat} {y : MethodName} {c : ByteArray} {n : Nat} {ret : Option FieldType} (h1 : Cond.methodLink own idx y ∈ gT) (h2 : Cond.instanceMethod y ∈ gT) (h3 : Cond.selects C y y ∈ gT) (h4 : Cond.initialized C ∈ gT) (h : Cond.code y c n ret ∈ gT) : GoodIn gT (wsV own idx C y (cT y c n ret)) :=
  gd_app (List.forall_mem_cons.mpr ⟨h1, List.forall_mem_cons.mpr ⟨h2, List.forall_mem_cons.mpr ⟨h3, List.forall_mem_cons.mpr ⟨h4, fun _ h => absurd h List.not_mem_nil⟩⟩⟩⟩) (gdT h)
theorem gdS {own : String} {idx : Nat} {y : MethodName} {c : ByteArray} {n : Nat} {ret : Option FieldType} (h1 : Cond.methodLink own idx y ∈ gT) (h2 : Cond.static y ∈ gT) (h3 : Cond.initialized own ∈ gT) (h : Cond.code y c n ret ∈ gT) : GoodIn gT (wsS own idx y (cT y c n ret)) :=
  gd_app (List.forall_mem_cons.mpr ⟨h1, List.forall_mem_cons.mpr ⟨h2, List.forall_mem_cons.mpr ⟨h3, fun _ h => absurd h List.not_mem_nil⟩⟩⟩) (gdT h)
theorem gdX {own : String} {idx : Nat} {y : MethodName} {c : ByteArray} {n : Nat} {ret : Option FieldType} (h1 : Cond.methodLink own idx y ∈ gT) (h2 : Cond.static y ∈ gT) (h3 : Cond.initialized y.cls ∈ gT) (h : Cond.code y c n ret ∈ gT) : GoodIn gT (va_wsS own idx y (cT y c n ret)) :=
  gd_app (List.forall_mem_cons.mpr ⟨h1, List.forall_mem_cons.mpr ⟨h2, List.forall_mem_cons.mpr ⟨h3, fun _ h => absurd h List.not_mem_nil⟩⟩⟩) (gdT h)
/-! My layer: a walk's judgement J over an abstract state (cells, locals, stack), and a contract MC with explicit worlds. -/
abbrev Ev : Type := va_G × (ClassId × ClassId × ClassId) × (Nat → Nat)
def eT (E : Ev) : List (ClassId × FieldType) := [(E.2.1.1, .byte), (E.2.1.2.1, .int), (E.2.1.2.2, .long)]
abbrev aB (E : Ev) (a n : Nat) (f : Nat → Int32) : Nat × va_E := (a, .inl (E.2.1.1, n, .inl f))
abbrev aI (E : Ev) (a n : Nat) (f : Nat → Int32) : Nat × va_E := (a, .inl (E.2.1.2.1, n, .inl f))
abbrev aL (E : Ev) (a n : Nat) (f : Nat → Int64) : Nat × va_E := (a, .inl (E.2.1.2.2, n, .inr (.inl f)))
abbrev ob (a ci : Nat) (fs : List Value) : Nat × va_E := (a, .inr (ci, fs))
/-- the static arrays: read, never written -/
def eZ (E : Ev) (A : Nat → Prop) (U : State) (H : Heap) : Prop := ∀ (k : Nat) (q : String × String × String × FieldType × Nat × (Nat → Value)), sT[k]? = some q → va_Z q.1 q.2.1 q.2.2.1 (.ref (E.2.2 k)) A U H ∧ va_T q.2.2.2.1 (E.2.2 k) q.2.2.2.2.1 q.2.2.2.2.2 A U H
theorem eZ.moved {E : Ev} {A : Nat → Prop} {u U : State} {H : Heap} (hvm : u.vm.Alike U.vm) (h : eZ E A u H) : eZ E A U H := fun k q hq => ⟨(h k q hq).1.moved hvm, (h k q hq).2.moved hvm⟩
theorem eZ.kept {E : Ev} {A : Nat → Prop} {U : State} {H H1 : Heap} (h : eZ E A U H) (hq : ∀ a : Nat, a < H.size → ¬ A a → H1[a]? = H[a]?) : eZ E A U H1 := fun k q hk => ⟨(h k q hk).1.kept hq, (h k q hk).2.kept hq⟩
theorem eZ.narrow {E : Ev} {A B : Nat → Prop} {U : State} {H : Heap} (h : eZ E A U H) (hAB : ∀ q, B q → A q) : eZ E B U H := fun k q hk => ⟨(h k q hk).1.narrow hAB, (h k q hk).2.narrow hAB⟩
/-- the links between nest mates -/
def eN (U : State) : Prop := ∀ q ∈ nW, va_Nw (.methodLinkNest q.1 q.2.1 q.2.2.1 q.2.2.2) U
theorem eN.warm {s U : State} (hW : s.WarmedH U.vm) (h : eN s) : eN U := fun q hq => (h q hq).warmM hW
theorem eN.same {s U : State} (hW : s.vm = U.vm) (h : eN s) : eN U := fun q hq => (h q hq).same rfl hW
abbrev Cx : Type := Program × Launch × Env × Room × State × MethodId × Array Value × List Frame × Method × Code × (Nat → Prop) × (State → Prop)
def J (E : Ev) (nL : Nat) (g : Cx) (ws : va_W) (lv : List (Nat × Value)) (cells slots pc : Nat) (st : List Value) : Prop :=
  match g with
  | (p, l, e, R, s, m, args, below, meth, c, A, Q) => ∀ (H : Heap) (locs : List Loc) (ls : Array Slot), va_P E.1 vwCl ws H → va_D A ws → va_S A s.heap H locs → lv_has ls nL lv → W p l e R s m args below meth c H locs cells slots Q (F0 m pc ls st)
def Ok (E : Ev) (nL : Nat) (g : Cx) (l0 : Launch) (cc : ByteArray) (own : String) (Ts : List Cond) (R0 : Room) : Prop :=
  match g with
  | (p, l, _, R, s, m, args, _, meth, c, A, _) => p.tables.exec = Jvm.exec ∧ c.code = cc ∧ c.maxLocals = nL ∧ s.vm.findClass own = some m.cls ∧ (∀ w ∈ Ts, w.before args s = true) ∧ va_K E.1 vwCl (eT E) s ∧ (∀ q : Nat, s.heap.size ≤ q → A q) ∧ eZ E A s s.heap ∧ R = R0 ∧ meth.locks = false ∧ l = l0 ∧ eN s
def QcM (E : Ev) (w0 : va_W) (sz : Nat) (S : Type) (post : S → Prop) (r : S → Option Value) (w1 : S → va_W) : Array Value → State → Outcome → State → Prop := fun _ st oc t =>
  (∃ u : S, oc = .returned (r u) ∧ post u ∧ va_P E.1 vwCl (w1 u) t.heap ∧ va_K E.1 vwCl (eT E) t ∧ va_D (va_A w0 sz) (w1 u)) ∧ va_F (va_A w0 sz) st t
def PcM (E : Ev) (as : List Value) (w0 : va_W) (sz : Nat) : Array Value → State → Prop := va_Pc as (fun U => U.heap.size = sz ∧ va_P E.1 vwCl w0 U.heap ∧ va_K E.1 vwCl (eT E) U ∧ va_D (fun _ => True) w0 ∧ eZ E (va_A w0 sz) U U.heap ∧ eN U)
/-- the contract: from the cells w0 and the arguments, it returns r u, the cells are w1 u, for a u with post u -/
def MC (E : Ev) (l : Launch) (y : MethodName) (Ts : List Cond) (rm : Room) (as : List Value) (w0 : va_W) (S : Type) (post : S → Prop) (r : S → Option Value) (w1 : S → va_W) : Prop :=
  ∀ sz : Nat, Met l y Ts rm (PcM E as w0 sz) (QcM E w0 sz S post r w1) rm.cells rm.slots (va_A w0 sz)
def Rt (E : Ev) (g : Cx) (w0 : va_W) (S : Type) (post : S → Prop) (r : S → Option Value) (w1 : S → va_W) (rm : Room) (ret : Option FieldType) (nm : String) : Prop :=
  match g with
  | (_, _, _, _, s, _, args, below, meth, _, A, Q) => A = va_A w0 s.heap.size ∧ Q = MQ below (QcM E w0 s.heap.size S post r w1) args s rm.cells rm.slots (va_A w0 s.heap.size) ∧ meth.sig.returnType = ret ∧ meth.name = nm
theorem pcM_blind {E : Ev} {as : List Value} {w0 : va_W} {sz : Nat} : FrameBlind (PcM E as w0 sz) := by
  intro a U g mk q
  obtain ⟨q0, q1, qP, qK, qD, qZ, qN⟩ := q
  exact ⟨q0, q1, qP, va_K.moved (u := U) (U := U.calling g mk a) (Vm.Alike.refl U.vm) qK, qD, eZ.moved (u := U) (U := U.calling g mk a) (Vm.Alike.refl U.vm) qZ, eN.same (s := U) (U := U.calling g mk a) rfl qN⟩
theorem MC.of {E : Ev} {l : Launch} {y : MethodName} {Ts Ts' : List Cond} {rm : Room} {as : List Value} {w0 : va_W} {S : Type} {post : S → Prop} {r : S → Option Value} {w1 : S → va_W} {cc : ByteArray} {nL : Nat} {ret : Option FieldType}
    (hy : plainName y.cls = true) (hw : Ts = Cond.code y cc nL ret :: Ts') (hgT : ∀ w ∈ gT, w ∈ Ts) (has : (lg_sl as).length ≤ nL)
    (body : ∀ g : Cx, Ok E nL g l cc y.cls gT rm → Rt E g w0 S post r w1 rm ret y.name → J E nL g w0 (lv_args 0 as) 0 0 0 []) : MC E l y Ts rm as w0 S post r w1 := by
  intro sz
  refine Met.ofW (cc := cc) (maxL := nL) (ret := ret) hy hw ?_
  intro p e s m args below meth c s₁ B hml hv
  obtain ⟨rfl, hsz, hP, hK, hD0, hZ, hN⟩ := hv
  subst hsz
  rw [lg_entry_eq]
  exact body (p, l, e, (headSpec Ts rm).room, s, m, as.toArray, below, meth, c, va_A w0 s.heap.size, MQ below (QcM E w0 s.heap.size S post r w1) as.toArray s rm.cells rm.slots (va_A w0 s.heap.size))
    ⟨B.exec, B.bytes, hml, findClass_of_methodNamed B.named, fun w hw => atoms_spec (ws := Ts) B.pre w (hgT w hw), hK, fun q h => Or.inr h, hZ, rfl, B.notSynchronized, rfl, hN⟩
    ⟨rfl, rfl, B.returns, (name_of_methodNamed B.named B.method).1⟩ s.heap [] _ hP (hD0.self (sz := s.heap.size)) va_S.rf (lv_entry as (n := nL) has)
theorem fm_of_map {ws w : va_W} : ∀ {is : List Nat}, is.map (fun i => ws[i]?) = w.map some → is.filterMap (fun i => ws[i]?) = w := by
  intro is
  induction is generalizing w with
  | nil =>
    intro h
    cases w with
    | nil => rfl
    | cons a w => simp at h
  | cons i is ih =>
    intro h
    cases w with
    | nil => simp at h
    | cons a w =>
      simp only [List.map_cons, List.cons.injEq] at h
      rw [List.filterMap_cons, h.1]
      simp only
      rw [ih h.2]
section JR
variable {E : Ev} {nL : Nat} {g : Cx} {l0 : Launch} {cc : ByteArray} {own : String} {Ts : List Cond} {R0 : Room} {ws : va_W} {lv : List (Nat × Value)} {cells slots pc : Nat} {st : List Value}
theorem j_topi {x y : Int32} (h : x = y) (k : J E nL g ws lv cells slots pc (.int y :: st)) : J E nL g ws lv cells slots pc (.int x :: st) := h ▸ k
theorem j_topl {x y : Int64} (h : x = y) (k : J E nL g ws lv cells slots pc (.long y :: st)) : J E nL g ws lv cells slots pc (.long x :: st) := h ▸ k
theorem j_ws {ws' : va_W} (h : ws = ws') (k : J E nL g ws' lv cells slots pc st) : J E nL g ws lv cells slots pc st := h ▸ k
theorem j_pick (ks : List Nat) {lv' : List (Nat × Value)} (h : lv_pick lv ks = lv') (k : J E nL g ws lv' cells slots pc st) : J E nL g ws lv cells slots pc st := by
  obtain ⟨p, l, e, R, s, m, args, below, meth, c, A, Q⟩ := g
  exact fun H locs ls hP hD hS hl => k H locs ls hP hD hS (lv_sub hl ks h)
/-- the cells in another order, or fewer -/
theorem j_sub (is : List Nat) {ws' : va_W} (h : is.map (fun i => ws[i]?) = ws'.map some) (hn : va_nd is = true) (k : J E nL g ws' lv cells slots pc st) : J E nL g ws lv cells slots pc st := by
  obtain ⟨p, l, e, R, s, m, args, below, meth, c, A, Q⟩ := g
  exact fun H locs ls hP hD hS hl => k H locs ls (hP.sub is (fm_of_map h)) (hD.sub is hn h) hS hl
theorem j_widen {cells' slots' : Nat} (h1 : cells ≤ cells') (h2 : slots ≤ slots') (k : J E nL g ws lv cells' slots' pc st) : J E nL g ws lv cells slots pc st := by
  obtain ⟨p, l, e, R, s, m, args, below, meth, c, A, Q⟩ := g
  exact fun H locs ls hP hD hS hl => W.widen h1 h2 (k H locs ls hP hD hS hl)
theorem j_iconst (hg : Ok E nL g l0 cc own Ts R0) {n : Int} {v : Int32} (hd : decode cc pc = .ok (.iconst n, 1)) (hv : Int32.ofInt n = v) (k : J E nL g ws lv cells slots (pc + 1) (.int v :: st)) : J E nL g ws lv cells slots pc (st) := by
  obtain ⟨p, l, e, R, s, m, args, below, meth, c, A, Q⟩ := g
  exact fun H locs ls hP hD hS hl => lv_iconst hg.1 hg.2.1 hd hv (k H locs ls hP hD hS hl)
theorem j_bipush (hg : Ok E nL g l0 cc own Ts R0) {n : Int} {v : Int32} (hd : decode cc pc = .ok (.bipush n, 2)) (hv : (Int8.ofInt n).toInt32 = v) (k : J E nL g ws lv cells slots (pc + 2) (.int v :: st)) : J E nL g ws lv cells slots pc (st) := by
  obtain ⟨p, l, e, R, s, m, args, below, meth, c, A, Q⟩ := g
  exact fun H locs ls hP hD hS hl => lv_bipush hg.1 hg.2.1 hd hv (k H locs ls hP hD hS hl)
theorem j_sipush (hg : Ok E nL g l0 cc own Ts R0) {n : Int} {v : Int32} (hd : decode cc pc = .ok (.sipush n, 3)) (hv : (Int16.ofInt n).toInt32 = v) (k : J E nL g ws lv cells slots (pc + 3) (.int v :: st)) : J E nL g ws lv cells slots pc (st) := by
  obtain ⟨p, l, e, R, s, m, args, below, meth, c, A, Q⟩ := g
  exact fun H locs ls hP hD hS hl => lv_sipush hg.1 hg.2.1 hd hv (k H locs ls hP hD hS hl)
theorem j_lconst (hg : Ok E nL g l0 cc own Ts R0) {n : Fin 2} {v : Int64} (hd : decode cc pc = .ok (.lconst n, 1)) (hv : Int64.ofNat (n : Nat) = v) (k : J E nL g ws lv cells slots (pc + 1) (.long v :: st)) : J E nL g ws lv cells slots pc (st) := by
  obtain ⟨p, l, e, R, s, m, args, below, meth, c, A, Q⟩ := g
  exact fun H locs ls hP hD hS hl => lv_lconst hg.1 hg.2.1 hd hv (k H locs ls hP hD hS hl)
theorem j_iload_n (hg : Ok E nL g l0 cc own Ts R0) {k : Fin 4} {i : Nat} {x : Int32} (q : Nat) (hd : decode cc pc = .ok (.iload_n k, 1)) (hi : (k : Nat) = i) (hq : lv[q]? = some (i, .int x)) (k : J E nL g ws lv cells slots (pc + 1) (.int x :: st)) : J E nL g ws lv cells slots pc (st) := by
  obtain ⟨p, l, e, R, s, m, args, below, meth, c, A, Q⟩ := g
  exact fun H locs ls hP hD hS hl => lv_iload_n hg.1 hg.2.1 hd hi (lv_at hl q hq) (k H locs ls hP hD hS hl)
theorem j_iload (hg : Ok E nL g l0 cc own Ts R0) {i : Nat} {x : Int32} (q : Nat) (hd : decode cc pc = .ok (.iload i, 2)) (hq : lv[q]? = some (i, .int x)) (k : J E nL g ws lv cells slots (pc + 2) (.int x :: st)) : J E nL g ws lv cells slots pc (st) := by
  obtain ⟨p, l, e, R, s, m, args, below, meth, c, A, Q⟩ := g
  exact fun H locs ls hP hD hS hl => lv_iload hg.1 hg.2.1 hd (lv_at hl q hq) (k H locs ls hP hD hS hl)
theorem j_lload_n (hg : Ok E nL g l0 cc own Ts R0) {k : Fin 4} {i : Nat} {x : Int64} (q : Nat) (hd : decode cc pc = .ok (.lload_n k, 1)) (hi : (k : Nat) = i) (hq : lv[q]? = some (i, .long x)) (k : J E nL g ws lv cells slots (pc + 1) (.long x :: st)) : J E nL g ws lv cells slots pc (st) := by
  obtain ⟨p, l, e, R, s, m, args, below, meth, c, A, Q⟩ := g
  exact fun H locs ls hP hD hS hl => lv_lload_n hg.1 hg.2.1 hd hi (lv_at hl q hq) (k H locs ls hP hD hS hl)
theorem j_lload (hg : Ok E nL g l0 cc own Ts R0) {i : Nat} {x : Int64} (q : Nat) (hd : decode cc pc = .ok (.lload i, 2)) (hq : lv[q]? = some (i, .long x)) (k : J E nL g ws lv cells slots (pc + 2) (.long x :: st)) : J E nL g ws lv cells slots pc (st) := by
  obtain ⟨p, l, e, R, s, m, args, below, meth, c, A, Q⟩ := g
  exact fun H locs ls hP hD hS hl => lv_lload hg.1 hg.2.1 hd (lv_at hl q hq) (k H locs ls hP hD hS hl)
theorem j_aload_n (hg : Ok E nL g l0 cc own Ts R0) {k : Fin 4} {i : Nat} {x : Nat} (q : Nat) (hd : decode cc pc = .ok (.aload_n k, 1)) (hi : (k : Nat) = i) (hq : lv[q]? = some (i, .ref x)) (k : J E nL g ws lv cells slots (pc + 1) (.ref x :: st)) : J E nL g ws lv cells slots pc (st) := by
  obtain ⟨p, l, e, R, s, m, args, below, meth, c, A, Q⟩ := g
  exact fun H locs ls hP hD hS hl => lv_aload_n hg.1 hg.2.1 hd hi (lv_at hl q hq) (k H locs ls hP hD hS hl)
theorem j_aload (hg : Ok E nL g l0 cc own Ts R0) {i : Nat} {x : Nat} (q : Nat) (hd : decode cc pc = .ok (.aload i, 2)) (hq : lv[q]? = some (i, .ref x)) (k : J E nL g ws lv cells slots (pc + 2) (.ref x :: st)) : J E nL g ws lv cells slots pc (st) := by
  obtain ⟨p, l, e, R, s, m, args, below, meth, c, A, Q⟩ := g
  exact fun H locs ls hP hD hS hl => lv_aload hg.1 hg.2.1 hd (lv_at hl q hq) (k H locs ls hP hD hS hl)
theorem j_istore_n (hg : Ok E nL g l0 cc own Ts R0) {k : Fin 4} {i : Nat} {x : Int32} {lv' : List (Nat × Value)} (hd : decode cc pc = .ok (.istore_n k, 1)) (hi : (k : Nat) = i) (hn : i < nL) (hq : (i, Value.int x) :: lv.filter (fun q => !(q.1 == i) && !(q.1 + 1 == i && q.2.category == 2)) = lv') (k : J E nL g ws lv' cells slots (pc + 1) (st)) : J E nL g ws lv cells slots pc (.int x :: st) := by
  obtain ⟨p, l, e, R, s, m, args, below, meth, c, A, Q⟩ := g
  exact fun H locs ls hP hD hS hl => lv_istore_n hg.1 hg.2.1 hd hi hl hn hq (fun ls' hl' => k H locs ls' hP hD hS hl')
theorem j_istore (hg : Ok E nL g l0 cc own Ts R0) {i : Nat} {x : Int32} {lv' : List (Nat × Value)} (hd : decode cc pc = .ok (.istore i, 2)) (hn : i < nL) (hq : (i, Value.int x) :: lv.filter (fun q => !(q.1 == i) && !(q.1 + 1 == i && q.2.category == 2)) = lv') (k : J E nL g ws lv' cells slots (pc + 2) (st)) : J E nL g ws lv cells slots pc (.int x :: st) := by
  obtain ⟨p, l, e, R, s, m, args, below, meth, c, A, Q⟩ := g
  exact fun H locs ls hP hD hS hl => lv_istore hg.1 hg.2.1 hd hl hn hq (fun ls' hl' => k H locs ls' hP hD hS hl')
theorem j_lstore_n (hg : Ok E nL g l0 cc own Ts R0) {k : Fin 4} {i : Nat} {x : Int64} {lv' : List (Nat × Value)} (hd : decode cc pc = .ok (.lstore_n k, 1)) (hi : (k : Nat) = i) (hn : i + 1 < nL) (hq : (i, Value.long x) :: lv.filter (fun q => !(q.1 == i) && (!(q.1 == i + 1) && !(q.1 + 1 == i && q.2.category == 2))) = lv') (k : J E nL g ws lv' cells slots (pc + 1) (st)) : J E nL g ws lv cells slots pc (.long x :: st) := by
  obtain ⟨p, l, e, R, s, m, args, below, meth, c, A, Q⟩ := g
  exact fun H locs ls hP hD hS hl => lv_lstore_n hg.1 hg.2.1 hd hi hl hn hq (fun ls' hl' => k H locs ls' hP hD hS hl')
theorem j_lstore (hg : Ok E nL g l0 cc own Ts R0) {i : Nat} {x : Int64} {lv' : List (Nat × Value)} (hd : decode cc pc = .ok (.lstore i, 2)) (hn : i + 1 < nL) (hq : (i, Value.long x) :: lv.filter (fun q => !(q.1 == i) && (!(q.1 == i + 1) && !(q.1 + 1 == i && q.2.category == 2))) = lv') (k : J E nL g ws lv' cells slots (pc + 2) (st)) : J E nL g ws lv cells slots pc (.long x :: st) := by
  obtain ⟨p, l, e, R, s, m, args, below, meth, c, A, Q⟩ := g
  exact fun H locs ls hP hD hS hl => lv_lstore hg.1 hg.2.1 hd hl hn hq (fun ls' hl' => k H locs ls' hP hD hS hl')
theorem j_astore_n (hg : Ok E nL g l0 cc own Ts R0) {k : Fin 4} {i : Nat} {x : Nat} {lv' : List (Nat × Value)} (hd : decode cc pc = .ok (.astore_n k, 1)) (hi : (k : Nat) = i) (hn : i < nL) (hq : (i, Value.ref x) :: lv.filter (fun q => !(q.1 == i) && !(q.1 + 1 == i && q.2.category == 2)) = lv') (k : J E nL g ws lv' cells slots (pc + 1) (st)) : J E nL g ws lv cells slots pc (.ref x :: st) := by
  obtain ⟨p, l, e, R, s, m, args, below, meth, c, A, Q⟩ := g
  exact fun H locs ls hP hD hS hl => lv_astore_n hg.1 hg.2.1 hd hi hl hn hq (fun ls' hl' => k H locs ls' hP hD hS hl')
theorem j_astore (hg : Ok E nL g l0 cc own Ts R0) {i : Nat} {x : Nat} {lv' : List (Nat × Value)} (hd : decode cc pc = .ok (.astore i, 2)) (hn : i < nL) (hq : (i, Value.ref x) :: lv.filter (fun q => !(q.1 == i) && !(q.1 + 1 == i && q.2.category == 2)) = lv') (k : J E nL g ws lv' cells slots (pc + 2) (st)) : J E nL g ws lv cells slots pc (.ref x :: st) := by
  obtain ⟨p, l, e, R, s, m, args, below, meth, c, A, Q⟩ := g
  exact fun H locs ls hP hD hS hl => lv_astore hg.1 hg.2.1 hd hl hn hq (fun ls' hl' => k H locs ls' hP hD hS hl')
theorem j_iinc (hg : Ok E nL g l0 cc own Ts R0) {i kq : Nat} {n : Int} {x v : Int32} {lv' : List (Nat × Value)} (hd : decode cc pc = .ok (.iinc i n, 3)) (hk : lv[kq]? = some (i, .int x)) (hv : x + Int32.ofInt n = v) (hn : i < nL) (hq : (i, Value.int v) :: lv.filter (fun q => !(q.1 == i) && !(q.1 + 1 == i && q.2.category == 2)) = lv') (k : J E nL g ws lv' cells slots (pc + 3) (st)) : J E nL g ws lv cells slots pc (st) := by
  obtain ⟨p, l, e, R, s, m, args, below, meth, c, A, Q⟩ := g
  exact fun H locs ls hP hD hS hl => lv_iinc hg.1 hg.2.1 hd hl hk hv hn hq (fun ls' hl' => k H locs ls' hP hD hS hl')
theorem j_iadd (hg : Ok E nL g l0 cc own Ts R0) {x y v : Int32} (hd : decode cc pc = .ok (.iadd, 1)) (hv : x + y = v) (k : J E nL g ws lv cells slots (pc + 1) (.int v :: st)) : J E nL g ws lv cells slots pc (.int y :: .int x :: st) := by
  obtain ⟨p, l, e, R, s, m, args, below, meth, c, A, Q⟩ := g
  subst hv
  exact fun H locs ls hP hD hS hl => lv_iadd hg.1 hg.2.1 hd (k H locs ls hP hD hS hl)
theorem j_isub (hg : Ok E nL g l0 cc own Ts R0) {x y v : Int32} (hd : decode cc pc = .ok (.isub, 1)) (hv : x - y = v) (k : J E nL g ws lv cells slots (pc + 1) (.int v :: st)) : J E nL g ws lv cells slots pc (.int y :: .int x :: st) := by
  obtain ⟨p, l, e, R, s, m, args, below, meth, c, A, Q⟩ := g
  subst hv
  exact fun H locs ls hP hD hS hl => lv_isub hg.1 hg.2.1 hd (k H locs ls hP hD hS hl)
theorem j_imul (hg : Ok E nL g l0 cc own Ts R0) {x y v : Int32} (hd : decode cc pc = .ok (.imul, 1)) (hv : x * y = v) (k : J E nL g ws lv cells slots (pc + 1) (.int v :: st)) : J E nL g ws lv cells slots pc (.int y :: .int x :: st) := by
  obtain ⟨p, l, e, R, s, m, args, below, meth, c, A, Q⟩ := g
  subst hv
  exact fun H locs ls hP hD hS hl => lv_imul hg.1 hg.2.1 hd (k H locs ls hP hD hS hl)
theorem j_iand (hg : Ok E nL g l0 cc own Ts R0) {x y v : Int32} (hd : decode cc pc = .ok (.iand, 1)) (hv : x &&& y = v) (k : J E nL g ws lv cells slots (pc + 1) (.int v :: st)) : J E nL g ws lv cells slots pc (.int y :: .int x :: st) := by
  obtain ⟨p, l, e, R, s, m, args, below, meth, c, A, Q⟩ := g
  subst hv
  exact fun H locs ls hP hD hS hl => lv_iand hg.1 hg.2.1 hd (k H locs ls hP hD hS hl)
theorem j_ior (hg : Ok E nL g l0 cc own Ts R0) {x y v : Int32} (hd : decode cc pc = .ok (.ior, 1)) (hv : x ||| y = v) (k : J E nL g ws lv cells slots (pc + 1) (.int v :: st)) : J E nL g ws lv cells slots pc (.int y :: .int x :: st) := by
  obtain ⟨p, l, e, R, s, m, args, below, meth, c, A, Q⟩ := g
  subst hv
  exact fun H locs ls hP hD hS hl => lv_ior hg.1 hg.2.1 hd (k H locs ls hP hD hS hl)
theorem j_ixor (hg : Ok E nL g l0 cc own Ts R0) {x y v : Int32} (hd : decode cc pc = .ok (.ixor, 1)) (hv : x ^^^ y = v) (k : J E nL g ws lv cells slots (pc + 1) (.int v :: st)) : J E nL g ws lv cells slots pc (.int y :: .int x :: st) := by
  obtain ⟨p, l, e, R, s, m, args, below, meth, c, A, Q⟩ := g
  subst hv
  exact fun H locs ls hP hD hS hl => lv_ixor hg.1 hg.2.1 hd (k H locs ls hP hD hS hl)
theorem j_ishl (hg : Ok E nL g l0 cc own Ts R0) {x y v : Int32} (hd : decode cc pc = .ok (.ishl, 1)) (hv : x <<< (y &&& 31) = v) (k : J E nL g ws lv cells slots (pc + 1) (.int v :: st)) : J E nL g ws lv cells slots pc (.int y :: .int x :: st) := by
  obtain ⟨p, l, e, R, s, m, args, below, meth, c, A, Q⟩ := g
  subst hv
  exact fun H locs ls hP hD hS hl => lv_ishl hg.1 hg.2.1 hd (k H locs ls hP hD hS hl)
theorem j_ishr (hg : Ok E nL g l0 cc own Ts R0) {x y v : Int32} (hd : decode cc pc = .ok (.ishr, 1)) (hv : x >>> (y &&& 31) = v) (k : J E nL g ws lv cells slots (pc + 1) (.int v :: st)) : J E nL g ws lv cells slots pc (.int y :: .int x :: st) := by
  obtain ⟨p, l, e, R, s, m, args, below, meth, c, A, Q⟩ := g
  subst hv
  exact fun H locs ls hP hD hS hl => lv_ishr hg.1 hg.2.1 hd (k H locs ls hP hD hS hl)
theorem j_irem (hg : Ok E nL g l0 cc own Ts R0) {x y v : Int32} (hd : decode cc pc = .ok (.irem, 1)) (hne : ¬ y = 0) (hv : x - x / y * y = v) (k : J E nL g ws lv cells slots (pc + 1) (.int v :: st)) : J E nL g ws lv cells slots pc (.int y :: .int x :: st) := by
  obtain ⟨p, l, e, R, s, m, args, below, meth, c, A, Q⟩ := g
  subst hv
  exact fun H locs ls hP hD hS hl => lv_irem hg.1 hg.2.1 hd hne (k H locs ls hP hD hS hl)
theorem j_idiv (hg : Ok E nL g l0 cc own Ts R0) {x y v : Int32} (hd : decode cc pc = .ok (.idiv, 1)) (hne : ¬ y = 0) (hv : x / y = v) (k : J E nL g ws lv cells slots (pc + 1) (.int v :: st)) : J E nL g ws lv cells slots pc (.int y :: .int x :: st) := by
  obtain ⟨p, l, e, R, s, m, args, below, meth, c, A, Q⟩ := g
  subst hv
  exact fun H locs ls hP hD hS hl => lv_idiv hg.1 hg.2.1 hd hne (k H locs ls hP hD hS hl)
theorem j_ladd (hg : Ok E nL g l0 cc own Ts R0) {x y v : Int64} (hd : decode cc pc = .ok (.ladd, 1)) (hv : x + y = v) (k : J E nL g ws lv cells slots (pc + 1) (.long v :: st)) : J E nL g ws lv cells slots pc (.long y :: .long x :: st) := by
  obtain ⟨p, l, e, R, s, m, args, below, meth, c, A, Q⟩ := g
  subst hv
  exact fun H locs ls hP hD hS hl => lv_ladd hg.1 hg.2.1 hd (k H locs ls hP hD hS hl)
theorem j_lsub (hg : Ok E nL g l0 cc own Ts R0) {x y v : Int64} (hd : decode cc pc = .ok (.lsub, 1)) (hv : x - y = v) (k : J E nL g ws lv cells slots (pc + 1) (.long v :: st)) : J E nL g ws lv cells slots pc (.long y :: .long x :: st) := by
  obtain ⟨p, l, e, R, s, m, args, below, meth, c, A, Q⟩ := g
  subst hv
  exact fun H locs ls hP hD hS hl => lv_lsub hg.1 hg.2.1 hd (k H locs ls hP hD hS hl)
theorem j_lmul (hg : Ok E nL g l0 cc own Ts R0) {x y v : Int64} (hd : decode cc pc = .ok (.lmul, 1)) (hv : x * y = v) (k : J E nL g ws lv cells slots (pc + 1) (.long v :: st)) : J E nL g ws lv cells slots pc (.long y :: .long x :: st) := by
  obtain ⟨p, l, e, R, s, m, args, below, meth, c, A, Q⟩ := g
  subst hv
  exact fun H locs ls hP hD hS hl => lv_lmul hg.1 hg.2.1 hd (k H locs ls hP hD hS hl)
theorem j_land (hg : Ok E nL g l0 cc own Ts R0) {x y v : Int64} (hd : decode cc pc = .ok (.land, 1)) (hv : x &&& y = v) (k : J E nL g ws lv cells slots (pc + 1) (.long v :: st)) : J E nL g ws lv cells slots pc (.long y :: .long x :: st) := by
  obtain ⟨p, l, e, R, s, m, args, below, meth, c, A, Q⟩ := g
  subst hv
  exact fun H locs ls hP hD hS hl => lv_land hg.1 hg.2.1 hd (k H locs ls hP hD hS hl)
theorem j_lor (hg : Ok E nL g l0 cc own Ts R0) {x y v : Int64} (hd : decode cc pc = .ok (.lor, 1)) (hv : x ||| y = v) (k : J E nL g ws lv cells slots (pc + 1) (.long v :: st)) : J E nL g ws lv cells slots pc (.long y :: .long x :: st) := by
  obtain ⟨p, l, e, R, s, m, args, below, meth, c, A, Q⟩ := g
  subst hv
  exact fun H locs ls hP hD hS hl => lv_lor hg.1 hg.2.1 hd (k H locs ls hP hD hS hl)
theorem j_lxor (hg : Ok E nL g l0 cc own Ts R0) {x y v : Int64} (hd : decode cc pc = .ok (.lxor, 1)) (hv : x ^^^ y = v) (k : J E nL g ws lv cells slots (pc + 1) (.long v :: st)) : J E nL g ws lv cells slots pc (.long y :: .long x :: st) := by
  obtain ⟨p, l, e, R, s, m, args, below, meth, c, A, Q⟩ := g
  subst hv
  exact fun H locs ls hP hD hS hl => lv_lxor hg.1 hg.2.1 hd (k H locs ls hP hD hS hl)
theorem j_lrem (hg : Ok E nL g l0 cc own Ts R0) {x y v : Int64} (hd : decode cc pc = .ok (.lrem, 1)) (hne : ¬ y = 0) (hv : x - x / y * y = v) (k : J E nL g ws lv cells slots (pc + 1) (.long v :: st)) : J E nL g ws lv cells slots pc (.long y :: .long x :: st) := by
  obtain ⟨p, l, e, R, s, m, args, below, meth, c, A, Q⟩ := g
  subst hv
  exact fun H locs ls hP hD hS hl => lv_lrem hg.1 hg.2.1 hd hne (k H locs ls hP hD hS hl)
theorem j_ldiv (hg : Ok E nL g l0 cc own Ts R0) {x y v : Int64} (hd : decode cc pc = .ok (.ldiv, 1)) (hne : ¬ y = 0) (hv : x / y = v) (k : J E nL g ws lv cells slots (pc + 1) (.long v :: st)) : J E nL g ws lv cells slots pc (.long y :: .long x :: st) := by
  obtain ⟨p, l, e, R, s, m, args, below, meth, c, A, Q⟩ := g
  subst hv
  exact fun H locs ls hP hD hS hl => lv_ldiv hg.1 hg.2.1 hd hne (k H locs ls hP hD hS hl)
theorem j_ineg (hg : Ok E nL g l0 cc own Ts R0) {x v : Int32} (hd : decode cc pc = .ok (.ineg, 1)) (hv : -x = v) (k : J E nL g ws lv cells slots (pc + 1) (.int v :: st)) : J E nL g ws lv cells slots pc (.int x :: st) := by
  obtain ⟨p, l, e, R, s, m, args, below, meth, c, A, Q⟩ := g
  subst hv
  exact fun H locs ls hP hD hS hl => lv_ineg hg.1 hg.2.1 hd (k H locs ls hP hD hS hl)
theorem j_lcmp (hg : Ok E nL g l0 cc own Ts R0) {x y : Int64} {v : Int32} (hd : decode cc pc = .ok (.lcmp, 1)) (hv : lg_cmp x y = v) (k : J E nL g ws lv cells slots (pc + 1) (.int v :: st)) : J E nL g ws lv cells slots pc (.long y :: .long x :: st) := by
  obtain ⟨p, l, e, R, s, m, args, below, meth, c, A, Q⟩ := g
  subst hv
  exact fun H locs ls hP hD hS hl => W.lcmp hg.1 hg.2.1 hd (k H locs ls hP hD hS hl)
theorem j_i2l (hg : Ok E nL g l0 cc own Ts R0) {x : Int32} {v : Int64} (hd : decode cc pc = .ok (.i2l, 1)) (hv : x.toInt64 = v) (k : J E nL g ws lv cells slots (pc + 1) (.long v :: st)) : J E nL g ws lv cells slots pc (.int x :: st) := by
  obtain ⟨p, l, e, R, s, m, args, below, meth, c, A, Q⟩ := g
  exact fun H locs ls hP hD hS hl => lv_i2l hg.1 hg.2.1 hd hv (k H locs ls hP hD hS hl)
theorem j_l2i (hg : Ok E nL g l0 cc own Ts R0) {x : Int64} {v : Int32} (hd : decode cc pc = .ok (.l2i, 1)) (hv : x.toInt32 = v) (k : J E nL g ws lv cells slots (pc + 1) (.int v :: st)) : J E nL g ws lv cells slots pc (.long x :: st) := by
  obtain ⟨p, l, e, R, s, m, args, below, meth, c, A, Q⟩ := g
  exact fun H locs ls hP hD hS hl => lv_l2i hg.1 hg.2.1 hd hv (k H locs ls hP hD hS hl)
theorem j_i2b (hg : Ok E nL g l0 cc own Ts R0) {x : Int32} {v : Int32} (hd : decode cc pc = .ok (.i2b, 1)) (hv : x.toInt8.toInt32 = v) (k : J E nL g ws lv cells slots (pc + 1) (.int v :: st)) : J E nL g ws lv cells slots pc (.int x :: st) := by
  obtain ⟨p, l, e, R, s, m, args, below, meth, c, A, Q⟩ := g
  exact fun H locs ls hP hD hS hl => lv_i2b hg.1 hg.2.1 hd hv (k H locs ls hP hD hS hl)
theorem j_i2s (hg : Ok E nL g l0 cc own Ts R0) {x : Int32} {v : Int32} (hd : decode cc pc = .ok (.i2s, 1)) (hv : x.toInt16.toInt32 = v) (k : J E nL g ws lv cells slots (pc + 1) (.int v :: st)) : J E nL g ws lv cells slots pc (.int x :: st) := by
  obtain ⟨p, l, e, R, s, m, args, below, meth, c, A, Q⟩ := g
  exact fun H locs ls hP hD hS hl => lv_i2s hg.1 hg.2.1 hd hv (k H locs ls hP hD hS hl)
theorem j_i2c (hg : Ok E nL g l0 cc own Ts R0) {x : Int32} {v : Int32} (hd : decode cc pc = .ok (.i2c, 1)) (hv : (x.toUInt32 % 65536).toInt32 = v) (k : J E nL g ws lv cells slots (pc + 1) (.int v :: st)) : J E nL g ws lv cells slots pc (.int x :: st) := by
  obtain ⟨p, l, e, R, s, m, args, below, meth, c, A, Q⟩ := g
  exact fun H locs ls hP hD hS hl => lv_i2c hg.1 hg.2.1 hd hv (k H locs ls hP hD hS hl)
theorem j_iushr (hg : Ok E nL g l0 cc own Ts R0) {x y v : Int32} (hd : decode cc pc = .ok (.iushr, 1)) (hv : (x.toUInt32 >>> (y.toUInt32 &&& Int32.toUInt32 31)).toInt32 = v) (k : J E nL g ws lv cells slots (pc + 1) (.int v :: st)) : J E nL g ws lv cells slots pc (.int y :: .int x :: st) := by
  obtain ⟨p, l, e, R, s, m, args, below, meth, c, A, Q⟩ := g
  exact fun H locs ls hP hD hS hl => lv_iushr hg.1 hg.2.1 hd hv (k H locs ls hP hD hS hl)
theorem j_lushr (hg : Ok E nL g l0 cc own Ts R0) {x v : Int64} {y : Int32} (hd : decode cc pc = .ok (.lushr, 1)) (hv : (x.toUInt64 >>> (y.toInt64.toUInt64 &&& Int64.toUInt64 63)).toInt64 = v) (k : J E nL g ws lv cells slots (pc + 1) (.long v :: st)) : J E nL g ws lv cells slots pc (.int y :: .long x :: st) := by
  obtain ⟨p, l, e, R, s, m, args, below, meth, c, A, Q⟩ := g
  exact fun H locs ls hP hD hS hl => lv_lushr hg.1 hg.2.1 hd hv (k H locs ls hP hD hS hl)
theorem j_lshl (hg : Ok E nL g l0 cc own Ts R0) {x v : Int64} {y : Int32} (hd : decode cc pc = .ok (.lshl, 1)) (hv : x <<< (y.toInt64 &&& 63) = v) (k : J E nL g ws lv cells slots (pc + 1) (.long v :: st)) : J E nL g ws lv cells slots pc (.int y :: .long x :: st) := by
  obtain ⟨p, l, e, R, s, m, args, below, meth, c, A, Q⟩ := g
  exact fun H locs ls hP hD hS hl => lv_lshl hg.1 hg.2.1 hd hv (k H locs ls hP hD hS hl)
theorem j_lshr (hg : Ok E nL g l0 cc own Ts R0) {x v : Int64} {y : Int32} (hd : decode cc pc = .ok (.lshr, 1)) (hv : x >>> (y.toInt64 &&& 63) = v) (k : J E nL g ws lv cells slots (pc + 1) (.long v :: st)) : J E nL g ws lv cells slots pc (.int y :: .long x :: st) := by
  obtain ⟨p, l, e, R, s, m, args, below, meth, c, A, Q⟩ := g
  exact fun H locs ls hP hD hS hl => lv_lshr hg.1 hg.2.1 hd hv (k H locs ls hP hD hS hl)
theorem j_dup (hg : Ok E nL g l0 cc own Ts R0) {va : Value} (hd : decode cc pc = .ok (.dup, 1)) (hva : va.category = 1) (k : J E nL g ws lv cells slots (pc + 1) (va :: va :: st)) : J E nL g ws lv cells slots pc (va :: st) := by
  obtain ⟨p, l, e, R, s, m, args, below, meth, c, A, Q⟩ := g
  exact fun H locs ls hP hD hS hl => lv_dup hg.1 hg.2.1 hd hva (k H locs ls hP hD hS hl)
theorem j_pop (hg : Ok E nL g l0 cc own Ts R0) {va : Value} (hd : decode cc pc = .ok (.pop, 1)) (hva : va.category = 1) (k : J E nL g ws lv cells slots (pc + 1) (st)) : J E nL g ws lv cells slots pc (va :: st) := by
  obtain ⟨p, l, e, R, s, m, args, below, meth, c, A, Q⟩ := g
  exact fun H locs ls hP hD hS hl => lv_pop hg.1 hg.2.1 hd hva (k H locs ls hP hD hS hl)
theorem j_dup_x1 (hg : Ok E nL g l0 cc own Ts R0) {va vb : Value} (hd : decode cc pc = .ok (.dup_x1, 1)) (hva : va.category = 1) (hvb : vb.category = 1) (k : J E nL g ws lv cells slots (pc + 1) (va :: vb :: va :: st)) : J E nL g ws lv cells slots pc (va :: vb :: st) := by
  obtain ⟨p, l, e, R, s, m, args, below, meth, c, A, Q⟩ := g
  exact fun H locs ls hP hD hS hl => lv_dup_x1 hg.1 hg.2.1 hd hva hvb (k H locs ls hP hD hS hl)
theorem j_dup_x2 (hg : Ok E nL g l0 cc own Ts R0) {va vb vd : Value} (hd : decode cc pc = .ok (.dup_x2, 1)) (hva : va.category = 1) (hvb : vb.category = 1) (hvd : vd.category = 1) (k : J E nL g ws lv cells slots (pc + 1) (va :: vb :: vd :: va :: st)) : J E nL g ws lv cells slots pc (va :: vb :: vd :: st) := by
  obtain ⟨p, l, e, R, s, m, args, below, meth, c, A, Q⟩ := g
  exact fun H locs ls hP hD hS hl => lv_dup_x2 hg.1 hg.2.1 hd hva hvb hvd (k H locs ls hP hD hS hl)
theorem j_dup2_11 (hg : Ok E nL g l0 cc own Ts R0) {va vb : Value} (hd : decode cc pc = .ok (.dup2, 1)) (hva : va.category = 1) (hvb : vb.category = 1) (k : J E nL g ws lv cells slots (pc + 1) (va :: vb :: va :: vb :: st)) : J E nL g ws lv cells slots pc (va :: vb :: st) := by
  obtain ⟨p, l, e, R, s, m, args, below, meth, c, A, Q⟩ := g
  exact fun H locs ls hP hD hS hl => lv_dup2_11 hg.1 hg.2.1 hd hva hvb (k H locs ls hP hD hS hl)
theorem j_dup2_2 (hg : Ok E nL g l0 cc own Ts R0) {va : Value} (hd : decode cc pc = .ok (.dup2, 1)) (hva : va.category = 2) (k : J E nL g ws lv cells slots (pc + 1) (va :: va :: st)) : J E nL g ws lv cells slots pc (va :: st) := by
  obtain ⟨p, l, e, R, s, m, args, below, meth, c, A, Q⟩ := g
  exact fun H locs ls hP hD hS hl => lv_dup2_2 hg.1 hg.2.1 hd hva (k H locs ls hP hD hS hl)
theorem j_pop2_2 (hg : Ok E nL g l0 cc own Ts R0) {va : Value} (hd : decode cc pc = .ok (.pop2, 1)) (hva : va.category = 2) (k : J E nL g ws lv cells slots (pc + 1) (st)) : J E nL g ws lv cells slots pc (va :: st) := by
  obtain ⟨p, l, e, R, s, m, args, below, meth, c, A, Q⟩ := g
  exact fun H locs ls hP hD hS hl => lv_pop2_2 hg.1 hg.2.1 hd hva (k H locs ls hP hD hS hl)
theorem j_dup2_x1_2 (hg : Ok E nL g l0 cc own Ts R0) {va vb : Value} (hd : decode cc pc = .ok (.dup2_x1, 1)) (hva : va.category = 2) (hvb : vb.category = 1) (k : J E nL g ws lv cells slots (pc + 1) (va :: vb :: va :: st)) : J E nL g ws lv cells slots pc (va :: vb :: st) := by
  obtain ⟨p, l, e, R, s, m, args, below, meth, c, A, Q⟩ := g
  exact fun H locs ls hP hD hS hl => lv_dup2_x1_2 hg.1 hg.2.1 hd hva hvb (k H locs ls hP hD hS hl)
theorem j_dup2_x2_2 (hg : Ok E nL g l0 cc own Ts R0) {va vb vd : Value} (hd : decode cc pc = .ok (.dup2_x2, 1)) (hva : va.category = 2) (hvb : vb.category = 1) (hvd : vd.category = 1) (k : J E nL g ws lv cells slots (pc + 1) (va :: vb :: vd :: va :: st)) : J E nL g ws lv cells slots pc (va :: vb :: vd :: st) := by
  obtain ⟨p, l, e, R, s, m, args, below, meth, c, A, Q⟩ := g
  exact fun H locs ls hP hD hS hl => lv_dup2_x2_2 hg.1 hg.2.1 hd hva hvb hvd (k H locs ls hP hD hS hl)
theorem j_if_eq (hg : Ok E nL g l0 cc own Ts R0) {x : Int32} {off : Int} {tgt : Nat} (hd : decode cc pc = .ok (.ifCond .eq off, 3)) (ht : (pc : Int) + off = (tgt : Int)) (kt : x = 0 → J E nL g ws lv cells slots tgt (st)) (kf : ¬ x = 0 → J E nL g ws lv cells slots (pc + 3) (st)) : J E nL g ws lv cells slots pc (.int x :: st) := by
  obtain ⟨p, l, e, R, s, m, args, below, meth, c, A, Q⟩ := g
  exact fun H locs ls hP hD hS hl => lv_if_eq hg.1 hg.2.1 hd ht (fun h => kt h H locs ls hP hD hS hl) (fun h => kf h H locs ls hP hD hS hl)
theorem j_if_ne (hg : Ok E nL g l0 cc own Ts R0) {x : Int32} {off : Int} {tgt : Nat} (hd : decode cc pc = .ok (.ifCond .ne off, 3)) (ht : (pc : Int) + off = (tgt : Int)) (kt : ¬ x = 0 → J E nL g ws lv cells slots tgt (st)) (kf : x = 0 → J E nL g ws lv cells slots (pc + 3) (st)) : J E nL g ws lv cells slots pc (.int x :: st) := by
  obtain ⟨p, l, e, R, s, m, args, below, meth, c, A, Q⟩ := g
  exact fun H locs ls hP hD hS hl => lv_if_ne hg.1 hg.2.1 hd ht (fun h => kt h H locs ls hP hD hS hl) (fun h => kf h H locs ls hP hD hS hl)
theorem j_if_lt (hg : Ok E nL g l0 cc own Ts R0) {x : Int32} {off : Int} {tgt : Nat} (hd : decode cc pc = .ok (.ifCond .lt off, 3)) (ht : (pc : Int) + off = (tgt : Int)) (kt : x < 0 → J E nL g ws lv cells slots tgt (st)) (kf : ¬ x < 0 → J E nL g ws lv cells slots (pc + 3) (st)) : J E nL g ws lv cells slots pc (.int x :: st) := by
  obtain ⟨p, l, e, R, s, m, args, below, meth, c, A, Q⟩ := g
  exact fun H locs ls hP hD hS hl => lv_if_lt hg.1 hg.2.1 hd ht (fun h => kt h H locs ls hP hD hS hl) (fun h => kf h H locs ls hP hD hS hl)
theorem j_if_ge (hg : Ok E nL g l0 cc own Ts R0) {x : Int32} {off : Int} {tgt : Nat} (hd : decode cc pc = .ok (.ifCond .ge off, 3)) (ht : (pc : Int) + off = (tgt : Int)) (kt : 0 ≤ x → J E nL g ws lv cells slots tgt (st)) (kf : ¬ 0 ≤ x → J E nL g ws lv cells slots (pc + 3) (st)) : J E nL g ws lv cells slots pc (.int x :: st) := by
  obtain ⟨p, l, e, R, s, m, args, below, meth, c, A, Q⟩ := g
  exact fun H locs ls hP hD hS hl => lv_if_ge hg.1 hg.2.1 hd ht (fun h => kt h H locs ls hP hD hS hl) (fun h => kf h H locs ls hP hD hS hl)
theorem j_if_gt (hg : Ok E nL g l0 cc own Ts R0) {x : Int32} {off : Int} {tgt : Nat} (hd : decode cc pc = .ok (.ifCond .gt off, 3)) (ht : (pc : Int) + off = (tgt : Int)) (kt : 0 < x → J E nL g ws lv cells slots tgt (st)) (kf : ¬ 0 < x → J E nL g ws lv cells slots (pc + 3) (st)) : J E nL g ws lv cells slots pc (.int x :: st) := by
  obtain ⟨p, l, e, R, s, m, args, below, meth, c, A, Q⟩ := g
  exact fun H locs ls hP hD hS hl => lv_if_gt hg.1 hg.2.1 hd ht (fun h => kt h H locs ls hP hD hS hl) (fun h => kf h H locs ls hP hD hS hl)
theorem j_if_le (hg : Ok E nL g l0 cc own Ts R0) {x : Int32} {off : Int} {tgt : Nat} (hd : decode cc pc = .ok (.ifCond .le off, 3)) (ht : (pc : Int) + off = (tgt : Int)) (kt : x ≤ 0 → J E nL g ws lv cells slots tgt (st)) (kf : ¬ x ≤ 0 → J E nL g ws lv cells slots (pc + 3) (st)) : J E nL g ws lv cells slots pc (.int x :: st) := by
  obtain ⟨p, l, e, R, s, m, args, below, meth, c, A, Q⟩ := g
  exact fun H locs ls hP hD hS hl => lv_if_le hg.1 hg.2.1 hd ht (fun h => kt h H locs ls hP hD hS hl) (fun h => kf h H locs ls hP hD hS hl)
theorem j_icmp_eq (hg : Ok E nL g l0 cc own Ts R0) {x y : Int32} {off : Int} {tgt : Nat} (hd : decode cc pc = .ok (.if_icmp .eq off, 3)) (ht : (pc : Int) + off = (tgt : Int)) (kt : x = y → J E nL g ws lv cells slots tgt (st)) (kf : ¬ x = y → J E nL g ws lv cells slots (pc + 3) (st)) : J E nL g ws lv cells slots pc (.int y :: .int x :: st) := by
  obtain ⟨p, l, e, R, s, m, args, below, meth, c, A, Q⟩ := g
  exact fun H locs ls hP hD hS hl => lv_icmp_eq hg.1 hg.2.1 hd ht (fun h => kt h H locs ls hP hD hS hl) (fun h => kf h H locs ls hP hD hS hl)
theorem j_icmp_ne (hg : Ok E nL g l0 cc own Ts R0) {x y : Int32} {off : Int} {tgt : Nat} (hd : decode cc pc = .ok (.if_icmp .ne off, 3)) (ht : (pc : Int) + off = (tgt : Int)) (kt : ¬ x = y → J E nL g ws lv cells slots tgt (st)) (kf : x = y → J E nL g ws lv cells slots (pc + 3) (st)) : J E nL g ws lv cells slots pc (.int y :: .int x :: st) := by
  obtain ⟨p, l, e, R, s, m, args, below, meth, c, A, Q⟩ := g
  exact fun H locs ls hP hD hS hl => lv_icmp_ne hg.1 hg.2.1 hd ht (fun h => kt h H locs ls hP hD hS hl) (fun h => kf h H locs ls hP hD hS hl)
theorem j_icmp_lt (hg : Ok E nL g l0 cc own Ts R0) {x y : Int32} {off : Int} {tgt : Nat} (hd : decode cc pc = .ok (.if_icmp .lt off, 3)) (ht : (pc : Int) + off = (tgt : Int)) (kt : x < y → J E nL g ws lv cells slots tgt (st)) (kf : ¬ x < y → J E nL g ws lv cells slots (pc + 3) (st)) : J E nL g ws lv cells slots pc (.int y :: .int x :: st) := by
  obtain ⟨p, l, e, R, s, m, args, below, meth, c, A, Q⟩ := g
  exact fun H locs ls hP hD hS hl => lv_icmp_lt hg.1 hg.2.1 hd ht (fun h => kt h H locs ls hP hD hS hl) (fun h => kf h H locs ls hP hD hS hl)
theorem j_icmp_ge (hg : Ok E nL g l0 cc own Ts R0) {x y : Int32} {off : Int} {tgt : Nat} (hd : decode cc pc = .ok (.if_icmp .ge off, 3)) (ht : (pc : Int) + off = (tgt : Int)) (kt : y ≤ x → J E nL g ws lv cells slots tgt (st)) (kf : ¬ y ≤ x → J E nL g ws lv cells slots (pc + 3) (st)) : J E nL g ws lv cells slots pc (.int y :: .int x :: st) := by
  obtain ⟨p, l, e, R, s, m, args, below, meth, c, A, Q⟩ := g
  exact fun H locs ls hP hD hS hl => lv_icmp_ge hg.1 hg.2.1 hd ht (fun h => kt h H locs ls hP hD hS hl) (fun h => kf h H locs ls hP hD hS hl)
theorem j_icmp_gt (hg : Ok E nL g l0 cc own Ts R0) {x y : Int32} {off : Int} {tgt : Nat} (hd : decode cc pc = .ok (.if_icmp .gt off, 3)) (ht : (pc : Int) + off = (tgt : Int)) (kt : y < x → J E nL g ws lv cells slots tgt (st)) (kf : ¬ y < x → J E nL g ws lv cells slots (pc + 3) (st)) : J E nL g ws lv cells slots pc (.int y :: .int x :: st) := by
  obtain ⟨p, l, e, R, s, m, args, below, meth, c, A, Q⟩ := g
  exact fun H locs ls hP hD hS hl => lv_icmp_gt hg.1 hg.2.1 hd ht (fun h => kt h H locs ls hP hD hS hl) (fun h => kf h H locs ls hP hD hS hl)
theorem j_icmp_le (hg : Ok E nL g l0 cc own Ts R0) {x y : Int32} {off : Int} {tgt : Nat} (hd : decode cc pc = .ok (.if_icmp .le off, 3)) (ht : (pc : Int) + off = (tgt : Int)) (kt : x ≤ y → J E nL g ws lv cells slots tgt (st)) (kf : ¬ x ≤ y → J E nL g ws lv cells slots (pc + 3) (st)) : J E nL g ws lv cells slots pc (.int y :: .int x :: st) := by
  obtain ⟨p, l, e, R, s, m, args, below, meth, c, A, Q⟩ := g
  exact fun H locs ls hP hD hS hl => lv_icmp_le hg.1 hg.2.1 hd ht (fun h => kt h H locs ls hP hD hS hl) (fun h => kf h H locs ls hP hD hS hl)
theorem j_goto (hg : Ok E nL g l0 cc own Ts R0) {off : Int} {tgt : Nat} (hd : decode cc pc = .ok (.goto off, 3)) (ht : (pc : Int) + off = (tgt : Int)) (k : J E nL g ws lv cells slots tgt (st)) : J E nL g ws lv cells slots pc (st) := by
  obtain ⟨p, l, e, R, s, m, args, below, meth, c, A, Q⟩ := g
  exact fun H locs ls hP hD hS hl => lv_goto hg.1 hg.2.1 hd ht (k H locs ls hP hD hS hl)
theorem j_ldc (hg : Ok E nL g l0 cc own Ts R0) {index : Nat} {v : Int32} (hc : Cond.constant own index v ∈ Ts) (hd : decode cc pc = .ok (.ldc index, 2)) (k : J E nL g ws lv cells slots (pc + 2) (.int v :: st)) : J E nL g ws lv cells slots pc (st) := by
  obtain ⟨p, l, e, R, s, m, args, below, meth, c, A, Q⟩ := g
  exact fun H locs ls hP hD hS hl => lv_ldc hg.1 hg.2.1 hg.2.2.2.1 (hg.2.2.2.2.1 _ hc) hd (k H locs ls hP hD hS hl)
theorem j_ldcw (hg : Ok E nL g l0 cc own Ts R0) {index : Nat} {v : Int32} (hc : Cond.constant own index v ∈ Ts) (hd : decode cc pc = .ok (.ldc_w index, 3)) (k : J E nL g ws lv cells slots (pc + 3) (.int v :: st)) : J E nL g ws lv cells slots pc (st) := by
  obtain ⟨p, l, e, R, s, m, args, below, meth, c, A, Q⟩ := g
  exact fun H locs ls hP hD hS hl => lv_ldcw hg.1 hg.2.1 hg.2.2.2.1 (hg.2.2.2.2.1 _ hc) hd (k H locs ls hP hD hS hl)
theorem j_ldc2 (hg : Ok E nL g l0 cc own Ts R0) {index : Nat} {v : Int64} (hc : Cond.constantLong own index v ∈ Ts) (hd : decode cc pc = .ok (.ldc2_w index, 3)) (k : J E nL g ws lv cells slots (pc + 3) (.long v :: st)) : J E nL g ws lv cells slots pc (st) := by
  obtain ⟨p, l, e, R, s, m, args, below, meth, c, A, Q⟩ := g
  exact fun H locs ls hP hD hS hl => lv_ldc2 hg.1 hg.2.1 hg.2.2.2.1 (hg.2.2.2.2.1 _ hc) hd (k H locs ls hP hD hS hl)
theorem j_get (hg : Ok E nL g l0 cc own Ts R0) {C : String} {T : u_T} {N ci index a : Nat} {fs : List Value} {v : Value} (hin : ∀ w ∈ u_ws C T N, w ∈ Ts) (q0 : Nat) (he : ws[q0]? = some (ob a ci fs)) (hc : vwCl[ci]? = some (C, T, N)) (f : Nat) (hk : f < N) (hl : Cond.fieldLink own index (T f).1 (T f).2.1 (T f).2.2.1 ∈ Ts) (hv : fs[f]? = some v) (hd : decode cc pc = .ok (.getfield index, 3)) (k : J E nL g ws lv cells slots (pc + 3) (v :: st)) : J E nL g ws lv cells slots pc (.ref a :: st) := by
  obtain ⟨p, l, e, R, s, m, args, below, meth, c, A, Q⟩ := g
  exact fun H locs ls hP hD hS hl9 => va_get hg.1 hg.2.1 hg.2.2.2.2.1 hin hg.2.2.2.1 hg.2.2.2.2.2.1 hP q0 he hc f hk (hg.2.2.2.2.1 _ hl) (fun _ h9 => h9) hv hd (k H locs ls hP hD hS hl9)
theorem j_put (hg : Ok E nL g l0 cc own Ts R0) {C : String} {T : u_T} {N ci index a : Nat} {fs : List Value} {v : Value} {ty : FieldType} {ws' : va_W} (hin : ∀ w ∈ u_ws C T N, w ∈ Ts) (ty0 : Nat → FieldType) (hty : ∀ k, k < N → parseFieldDescriptor (T k).2.2.1 = some (ty0 k)) (hnm : ∀ a, a < N → ∀ b, b < N → a ≠ b → (T a).2.1 ≠ (T b).2.1) (q0 : Nat) (he : ws[q0]? = some (ob a ci fs)) (hc : vwCl[ci]? = some (C, T, N)) (f : Nat) (hk : f < N) (hl : Cond.fieldLink own index (T f).1 (T f).2.1 (T f).2.2.1 ∈ Ts) (hfin : (T f).2.2.2 = false) (hpd : parseFieldDescriptor (T f).2.2.1 = some ty) (hn : narrow ty v = v) (hfit : fits ty v = true) (hlt : f < fs.length) (hw : ws.set q0 (ob a ci (fs.set f v)) = ws') (hd : decode cc pc = .ok (.putfield index, 3)) (k : J E nL g ws' lv cells slots (pc + 3) (st)) : J E nL g ws lv cells slots pc (v :: .ref a :: st) := by
  obtain ⟨p, l, e, R, s, m, args, below, meth, c, A, Q⟩ := g
  subst hw
  exact fun H locs ls hP hD hS hl9 => va_put hg.1 hg.2.1 hg.2.2.2.2.1 hin ty0 hty hnm hg.2.2.2.1 hg.2.2.2.2.2.1 hP hD hS q0 he hc f hk (hg.2.2.2.2.1 _ hl) (fun _ h9 => h9) hfin hpd hn hfit hlt hd (fun H1 locs1 hP1 hD1 hS1 => k H1 locs1 ls hP1 hD1 hS1 hl9)
theorem j_putF {w0 : va_W} {S : Type} {post : S → Prop} {r : S → Option Value} {w1 : S → va_W} {rm : Room} {ret : Option FieldType} (hg : Ok E nL g l0 cc own Ts R0) (hR : Rt E g w0 S post r w1 rm ret "<init>") {C : String} {T : u_T} {N ci index a : Nat} {fs : List Value} {v : Value} {ty : FieldType} {ws' : va_W} (hin : ∀ w ∈ u_ws C T N, w ∈ Ts) (ty0 : Nat → FieldType) (hty : ∀ k, k < N → parseFieldDescriptor (T k).2.2.1 = some (ty0 k)) (hnm : ∀ a, a < N → ∀ b, b < N → a ≠ b → (T a).2.1 ≠ (T b).2.1) (q0 : Nat) (he : ws[q0]? = some (ob a ci fs)) (hc : vwCl[ci]? = some (C, T, N)) (f : Nat) (hk : f < N) (hl : Cond.fieldLink own index (T f).1 (T f).2.1 (T f).2.2.1 ∈ Ts) (hfin : (T f).2.2.2 = true) (ho : (T f).1 = own) (hpd : parseFieldDescriptor (T f).2.2.1 = some ty) (hn : narrow ty v = v) (hfit : fits ty v = true) (hlt : f < fs.length) (hw : ws.set q0 (ob a ci (fs.set f v)) = ws') (hd : decode cc pc = .ok (.putfield index, 3)) (k : J E nL g ws' lv cells slots (pc + 3) (st)) : J E nL g ws lv cells slots pc (v :: .ref a :: st) := by
  obtain ⟨p, l, e, R, s, m, args, below, meth, c, A, Q⟩ := g
  subst hw
  exact fun H locs ls hP hD hS hl9 => va_putF hg.1 hg.2.1 hg.2.2.2.2.1 hin ty0 hty hnm hg.2.2.2.1 hg.2.2.2.2.2.1 hP hD hS q0 he hc f hk (hg.2.2.2.2.1 _ hl) (fun _ h9 => h9) hfin hR.2.2.2 ho hpd hn hfit hlt hd (fun H1 locs1 hP1 hD1 hS1 => k H1 locs1 ls hP1 hD1 hS1 hl9)
theorem j_bald (hg : Ok E nL g l0 cc own Ts R0) {a n : Nat} {f : Nat → Int32} {i : Int32} {v : Int32} (q0 j : Nat) (ha : ws[q0]? = some (aB E a n f)) (hi : i = nI j) (hj : j < n) (hn : n < 2147483648) (hv : f j = v) (hd : decode cc pc = .ok (.baload, 1)) (k : J E nL g ws lv cells slots (pc + 1) (.int v :: st)) : J E nL g ws lv cells slots pc (.int i :: .ref a :: st) := by
  obtain ⟨p, l, e, R, s, m, args, below, meth, c, A, Q⟩ := g
  subst hi hv
  have e : (nI j).toNatClampNeg = j := nI_clamp (by omega)
  exact fun H locs ls hP hD hS hl => va_bald hg.1 hg.2.1 hg.2.2.2.2.2.1 hP q0 0 ha rfl (vp_in_nI hj hn) hd (by rw [e]; exact k H locs ls hP hD hS hl)
theorem j_iald (hg : Ok E nL g l0 cc own Ts R0) {a n : Nat} {f : Nat → Int32} {i : Int32} {v : Int32} (q0 j : Nat) (ha : ws[q0]? = some (aI E a n f)) (hi : i = nI j) (hj : j < n) (hn : n < 2147483648) (hv : f j = v) (hd : decode cc pc = .ok (.iaload, 1)) (k : J E nL g ws lv cells slots (pc + 1) (.int v :: st)) : J E nL g ws lv cells slots pc (.int i :: .ref a :: st) := by
  obtain ⟨p, l, e, R, s, m, args, below, meth, c, A, Q⟩ := g
  subst hi hv
  have e : (nI j).toNatClampNeg = j := nI_clamp (by omega)
  exact fun H locs ls hP hD hS hl => va_iald hg.1 hg.2.1 hg.2.2.2.2.2.1 hP q0 1 ha rfl (vp_in_nI hj hn) hd (by rw [e]; exact k H locs ls hP hD hS hl)
theorem j_lald (hg : Ok E nL g l0 cc own Ts R0) {a n : Nat} {f : Nat → Int64} {i : Int32} {v : Int64} (q0 j : Nat) (ha : ws[q0]? = some (aL E a n f)) (hi : i = nI j) (hj : j < n) (hn : n < 2147483648) (hv : f j = v) (hd : decode cc pc = .ok (.laload, 1)) (k : J E nL g ws lv cells slots (pc + 1) (.long v :: st)) : J E nL g ws lv cells slots pc (.int i :: .ref a :: st) := by
  obtain ⟨p, l, e, R, s, m, args, below, meth, c, A, Q⟩ := g
  subst hi hv
  have e : (nI j).toNatClampNeg = j := nI_clamp (by omega)
  exact fun H locs ls hP hD hS hl => va_lald hg.1 hg.2.1 hg.2.2.2.2.2.1 hP q0 2 ha rfl (vp_in_nI hj hn) hd (by rw [e]; exact k H locs ls hP hD hS hl)
theorem j_bast (hg : Ok E nL g l0 cc own Ts R0) {a n : Nat} {f : Nat → Int32} {i : Int32} {x v : Int32} {ws' : va_W} (q0 j : Nat) (ha : ws[q0]? = some (aB E a n f)) (hi : i = nI j) (hj : j < n) (hn : n < 2147483648) (hv : vp_nar .byte x = v) (hw : ws.set q0 (aB E a n (upd f j v)) = ws') (hd : decode cc pc = .ok (.bastore, 1)) (k : J E nL g ws' lv cells slots (pc + 1) (st)) : J E nL g ws lv cells slots pc (.int x :: .int i :: .ref a :: st) := by
  obtain ⟨p, l, e, R, s, m, args, below, meth, c, A, Q⟩ := g
  subst hi hv hw
  have e : (nI j).toNatClampNeg = j := nI_clamp (by omega)
  exact fun H locs ls hP hD hS hl => va_bast hg.1 hg.2.1 hg.2.2.2.2.2.1 hP hD hS q0 0 ha rfl (vp_in_nI hj hn) hd (fun H1 locs1 hP1 hD1 hS1 => by rw [e] at hP1 hD1; exact k H1 locs1 ls hP1 hD1 hS1 hl)
theorem j_iast (hg : Ok E nL g l0 cc own Ts R0) {a n : Nat} {f : Nat → Int32} {i : Int32} {x : Int32} {ws' : va_W} (q0 j : Nat) (ha : ws[q0]? = some (aI E a n f)) (hi : i = nI j) (hj : j < n) (hn : n < 2147483648) (hw : ws.set q0 (aI E a n (upd f j x)) = ws') (hd : decode cc pc = .ok (.iastore, 1)) (k : J E nL g ws' lv cells slots (pc + 1) (st)) : J E nL g ws lv cells slots pc (.int x :: .int i :: .ref a :: st) := by
  obtain ⟨p, l, e, R, s, m, args, below, meth, c, A, Q⟩ := g
  subst hi hw
  have e : (nI j).toNatClampNeg = j := nI_clamp (by omega)
  exact fun H locs ls hP hD hS hl => va_iast hg.1 hg.2.1 hg.2.2.2.2.2.1 hP hD hS q0 1 ha rfl (vp_in_nI hj hn) hd (fun H1 locs1 hP1 hD1 hS1 => by rw [e] at hP1 hD1; exact k H1 locs1 ls hP1 hD1 hS1 hl)
theorem j_last (hg : Ok E nL g l0 cc own Ts R0) {a n : Nat} {f : Nat → Int64} {i : Int32} {x : Int64} {ws' : va_W} (q0 j : Nat) (ha : ws[q0]? = some (aL E a n f)) (hi : i = nI j) (hj : j < n) (hn : n < 2147483648) (hw : ws.set q0 (aL E a n (vp_updL f j x)) = ws') (hd : decode cc pc = .ok (.lastore, 1)) (k : J E nL g ws' lv cells slots (pc + 1) (st)) : J E nL g ws lv cells slots pc (.long x :: .int i :: .ref a :: st) := by
  obtain ⟨p, l, e, R, s, m, args, below, meth, c, A, Q⟩ := g
  subst hi hw
  have e : (nI j).toNatClampNeg = j := nI_clamp (by omega)
  exact fun H locs ls hP hD hS hl => va_last hg.1 hg.2.1 hg.2.2.2.2.2.1 hP hD hS q0 2 ha rfl (vp_in_nI hj hn) hd (fun H1 locs1 hP1 hD1 hS1 => by rw [e] at hP1 hD1; exact k H1 locs1 ls hP1 hD1 hS1 hl)
theorem j_alenB (hg : Ok E nL g l0 cc own Ts R0) {a n : Nat} {f : Nat → Int32} {v : Int32} (q0 : Nat) (ha : ws[q0]? = some (aB E a n f)) (hv : nI n = v) (hd : decode cc pc = .ok (.arraylength, 1)) (k : J E nL g ws lv cells slots (pc + 1) (.int v :: st)) : J E nL g ws lv cells slots pc (.ref a :: st) := by
  obtain ⟨p, l, e, R, s, m, args, below, meth, c, A, Q⟩ := g
  exact fun H locs ls hP hD hS hl => va_alen hg.1 hg.2.1 hg.2.2.2.2.2.1 hP q0 0 ha rfl hv hd (k H locs ls hP hD hS hl)
theorem j_alenI (hg : Ok E nL g l0 cc own Ts R0) {a n : Nat} {f : Nat → Int32} {v : Int32} (q0 : Nat) (ha : ws[q0]? = some (aI E a n f)) (hv : nI n = v) (hd : decode cc pc = .ok (.arraylength, 1)) (k : J E nL g ws lv cells slots (pc + 1) (.int v :: st)) : J E nL g ws lv cells slots pc (.ref a :: st) := by
  obtain ⟨p, l, e, R, s, m, args, below, meth, c, A, Q⟩ := g
  exact fun H locs ls hP hD hS hl => va_alen hg.1 hg.2.1 hg.2.2.2.2.2.1 hP q0 1 ha rfl hv hd (k H locs ls hP hD hS hl)
theorem j_alenL (hg : Ok E nL g l0 cc own Ts R0) {a n : Nat} {f : Nat → Int64} {v : Int32} (q0 : Nat) (ha : ws[q0]? = some (aL E a n f)) (hv : nI n = v) (hd : decode cc pc = .ok (.arraylength, 1)) (k : J E nL g ws lv cells slots (pc + 1) (.int v :: st)) : J E nL g ws lv cells slots pc (.ref a :: st) := by
  obtain ⟨p, l, e, R, s, m, args, below, meth, c, A, Q⟩ := g
  exact fun H locs ls hP hD hS hl => va_alen hg.1 hg.2.1 hg.2.2.2.2.2.1 hP q0 2 ha rfl hv hd (k H locs ls hP hD hS hl)
theorem j_nge (hg : Ok E nL g l0 cc own Ts R0) {x y : Int32} {off : Int} {tgt : Nat} (a b : Nat) (hx : x = nI a) (hy : y = nI b) (ha : a < 2147483648) (hb : b < 2147483648) (hd : decode cc pc = .ok (.if_icmp .ge off, 3)) (ht : (pc : Int) + off = (tgt : Int)) (kt : b ≤ a → J E nL g ws lv cells slots tgt st) (kf : a < b → J E nL g ws lv cells slots (pc + 3) st) : J E nL g ws lv cells slots pc (.int y :: .int x :: st) := by
  subst hx hy
  exact j_icmp_ge hg hd ht (fun c => kt ((nI_leI hb ha).mp c)) (fun c => kf (Nat.not_le.mp (fun z => c ((nI_leI hb ha).mpr z))))
theorem j_nge_t (hg : Ok E nL g l0 cc own Ts R0) {x y : Int32} {off : Int} {tgt : Nat} (a b : Nat) (hx : x = nI a) (hy : y = nI b) (ha : a < 2147483648) (hb : b < 2147483648) (h : b ≤ a) (hd : decode cc pc = .ok (.if_icmp .ge off, 3)) (ht : (pc : Int) + off = (tgt : Int)) (k : J E nL g ws lv cells slots tgt st) : J E nL g ws lv cells slots pc (.int y :: .int x :: st) := j_nge hg a b hx hy ha hb hd ht (fun _ => k) (fun z => absurd h (by omega))
theorem j_nge_f (hg : Ok E nL g l0 cc own Ts R0) {x y : Int32} {off : Int} {tgt : Nat} (a b : Nat) (hx : x = nI a) (hy : y = nI b) (ha : a < 2147483648) (hb : b < 2147483648) (h : a < b) (hd : decode cc pc = .ok (.if_icmp .ge off, 3)) (ht : (pc : Int) + off = (tgt : Int)) (k : J E nL g ws lv cells slots (pc + 3) st) : J E nL g ws lv cells slots pc (.int y :: .int x :: st) := j_nge hg a b hx hy ha hb hd ht (fun z => absurd h (by omega)) (fun _ => k)
theorem j_nlt (hg : Ok E nL g l0 cc own Ts R0) {x y : Int32} {off : Int} {tgt : Nat} (a b : Nat) (hx : x = nI a) (hy : y = nI b) (ha : a < 2147483648) (hb : b < 2147483648) (hd : decode cc pc = .ok (.if_icmp .lt off, 3)) (ht : (pc : Int) + off = (tgt : Int)) (kt : a < b → J E nL g ws lv cells slots tgt st) (kf : b ≤ a → J E nL g ws lv cells slots (pc + 3) st) : J E nL g ws lv cells slots pc (.int y :: .int x :: st) := by
  subst hx hy
  exact j_icmp_lt hg hd ht (fun c => kt ((nI_ltI ha hb).mp c)) (fun c => kf (Nat.not_lt.mp (fun z => c ((nI_ltI ha hb).mpr z))))
theorem j_nlt_t (hg : Ok E nL g l0 cc own Ts R0) {x y : Int32} {off : Int} {tgt : Nat} (a b : Nat) (hx : x = nI a) (hy : y = nI b) (ha : a < 2147483648) (hb : b < 2147483648) (h : a < b) (hd : decode cc pc = .ok (.if_icmp .lt off, 3)) (ht : (pc : Int) + off = (tgt : Int)) (k : J E nL g ws lv cells slots tgt st) : J E nL g ws lv cells slots pc (.int y :: .int x :: st) := j_nlt hg a b hx hy ha hb hd ht (fun _ => k) (fun z => absurd h (by omega))
theorem j_nlt_f (hg : Ok E nL g l0 cc own Ts R0) {x y : Int32} {off : Int} {tgt : Nat} (a b : Nat) (hx : x = nI a) (hy : y = nI b) (ha : a < 2147483648) (hb : b < 2147483648) (h : b ≤ a) (hd : decode cc pc = .ok (.if_icmp .lt off, 3)) (ht : (pc : Int) + off = (tgt : Int)) (k : J E nL g ws lv cells slots (pc + 3) st) : J E nL g ws lv cells slots pc (.int y :: .int x :: st) := j_nlt hg a b hx hy ha hb hd ht (fun z => absurd h (by omega)) (fun _ => k)
theorem j_ngt (hg : Ok E nL g l0 cc own Ts R0) {x y : Int32} {off : Int} {tgt : Nat} (a b : Nat) (hx : x = nI a) (hy : y = nI b) (ha : a < 2147483648) (hb : b < 2147483648) (hd : decode cc pc = .ok (.if_icmp .gt off, 3)) (ht : (pc : Int) + off = (tgt : Int)) (kt : b < a → J E nL g ws lv cells slots tgt st) (kf : a ≤ b → J E nL g ws lv cells slots (pc + 3) st) : J E nL g ws lv cells slots pc (.int y :: .int x :: st) := by
  subst hx hy
  exact j_icmp_gt hg hd ht (fun c => kt ((nI_ltI hb ha).mp c)) (fun c => kf (Nat.not_lt.mp (fun z => c ((nI_ltI hb ha).mpr z))))
theorem j_ngt_t (hg : Ok E nL g l0 cc own Ts R0) {x y : Int32} {off : Int} {tgt : Nat} (a b : Nat) (hx : x = nI a) (hy : y = nI b) (ha : a < 2147483648) (hb : b < 2147483648) (h : b < a) (hd : decode cc pc = .ok (.if_icmp .gt off, 3)) (ht : (pc : Int) + off = (tgt : Int)) (k : J E nL g ws lv cells slots tgt st) : J E nL g ws lv cells slots pc (.int y :: .int x :: st) := j_ngt hg a b hx hy ha hb hd ht (fun _ => k) (fun z => absurd h (by omega))
theorem j_ngt_f (hg : Ok E nL g l0 cc own Ts R0) {x y : Int32} {off : Int} {tgt : Nat} (a b : Nat) (hx : x = nI a) (hy : y = nI b) (ha : a < 2147483648) (hb : b < 2147483648) (h : a ≤ b) (hd : decode cc pc = .ok (.if_icmp .gt off, 3)) (ht : (pc : Int) + off = (tgt : Int)) (k : J E nL g ws lv cells slots (pc + 3) st) : J E nL g ws lv cells slots pc (.int y :: .int x :: st) := j_ngt hg a b hx hy ha hb hd ht (fun z => absurd h (by omega)) (fun _ => k)
theorem j_nle (hg : Ok E nL g l0 cc own Ts R0) {x y : Int32} {off : Int} {tgt : Nat} (a b : Nat) (hx : x = nI a) (hy : y = nI b) (ha : a < 2147483648) (hb : b < 2147483648) (hd : decode cc pc = .ok (.if_icmp .le off, 3)) (ht : (pc : Int) + off = (tgt : Int)) (kt : a ≤ b → J E nL g ws lv cells slots tgt st) (kf : b < a → J E nL g ws lv cells slots (pc + 3) st) : J E nL g ws lv cells slots pc (.int y :: .int x :: st) := by
  subst hx hy
  exact j_icmp_le hg hd ht (fun c => kt ((nI_leI ha hb).mp c)) (fun c => kf (Nat.not_le.mp (fun z => c ((nI_leI ha hb).mpr z))))
theorem j_nle_t (hg : Ok E nL g l0 cc own Ts R0) {x y : Int32} {off : Int} {tgt : Nat} (a b : Nat) (hx : x = nI a) (hy : y = nI b) (ha : a < 2147483648) (hb : b < 2147483648) (h : a ≤ b) (hd : decode cc pc = .ok (.if_icmp .le off, 3)) (ht : (pc : Int) + off = (tgt : Int)) (k : J E nL g ws lv cells slots tgt st) : J E nL g ws lv cells slots pc (.int y :: .int x :: st) := j_nle hg a b hx hy ha hb hd ht (fun _ => k) (fun z => absurd h (by omega))
theorem j_nle_f (hg : Ok E nL g l0 cc own Ts R0) {x y : Int32} {off : Int} {tgt : Nat} (a b : Nat) (hx : x = nI a) (hy : y = nI b) (ha : a < 2147483648) (hb : b < 2147483648) (h : b < a) (hd : decode cc pc = .ok (.if_icmp .le off, 3)) (ht : (pc : Int) + off = (tgt : Int)) (k : J E nL g ws lv cells slots (pc + 3) st) : J E nL g ws lv cells slots pc (.int y :: .int x :: st) := j_nle hg a b hx hy ha hb hd ht (fun z => absurd h (by omega)) (fun _ => k)
theorem j_neq (hg : Ok E nL g l0 cc own Ts R0) {x y : Int32} {off : Int} {tgt : Nat} (a b : Nat) (hx : x = nI a) (hy : y = nI b) (ha : a < 2147483648) (hb : b < 2147483648) (hd : decode cc pc = .ok (.if_icmp .eq off, 3)) (ht : (pc : Int) + off = (tgt : Int)) (kt : a = b → J E nL g ws lv cells slots tgt st) (kf : a ≠ b → J E nL g ws lv cells slots (pc + 3) st) : J E nL g ws lv cells slots pc (.int y :: .int x :: st) := by
  subst hx hy
  exact j_icmp_eq hg hd ht (fun c => kt ((nI_eq ha hb).mp c)) (fun c => kf (fun z => c ((nI_eq ha hb).mpr z)))
theorem j_neq_t (hg : Ok E nL g l0 cc own Ts R0) {x y : Int32} {off : Int} {tgt : Nat} (a b : Nat) (hx : x = nI a) (hy : y = nI b) (ha : a < 2147483648) (hb : b < 2147483648) (h : a = b) (hd : decode cc pc = .ok (.if_icmp .eq off, 3)) (ht : (pc : Int) + off = (tgt : Int)) (k : J E nL g ws lv cells slots tgt st) : J E nL g ws lv cells slots pc (.int y :: .int x :: st) := j_neq hg a b hx hy ha hb hd ht (fun _ => k) (fun z => absurd h (by omega))
theorem j_neq_f (hg : Ok E nL g l0 cc own Ts R0) {x y : Int32} {off : Int} {tgt : Nat} (a b : Nat) (hx : x = nI a) (hy : y = nI b) (ha : a < 2147483648) (hb : b < 2147483648) (h : a ≠ b) (hd : decode cc pc = .ok (.if_icmp .eq off, 3)) (ht : (pc : Int) + off = (tgt : Int)) (k : J E nL g ws lv cells slots (pc + 3) st) : J E nL g ws lv cells slots pc (.int y :: .int x :: st) := j_neq hg a b hx hy ha hb hd ht (fun z => absurd h (by omega)) (fun _ => k)
theorem j_nne (hg : Ok E nL g l0 cc own Ts R0) {x y : Int32} {off : Int} {tgt : Nat} (a b : Nat) (hx : x = nI a) (hy : y = nI b) (ha : a < 2147483648) (hb : b < 2147483648) (hd : decode cc pc = .ok (.if_icmp .ne off, 3)) (ht : (pc : Int) + off = (tgt : Int)) (kt : a ≠ b → J E nL g ws lv cells slots tgt st) (kf : a = b → J E nL g ws lv cells slots (pc + 3) st) : J E nL g ws lv cells slots pc (.int y :: .int x :: st) := by
  subst hx hy
  exact j_icmp_ne hg hd ht (fun c => kt (fun z => c ((nI_eq ha hb).mpr z))) (fun c => kf ((nI_eq ha hb).mp c))
theorem j_nne_t (hg : Ok E nL g l0 cc own Ts R0) {x y : Int32} {off : Int} {tgt : Nat} (a b : Nat) (hx : x = nI a) (hy : y = nI b) (ha : a < 2147483648) (hb : b < 2147483648) (h : a ≠ b) (hd : decode cc pc = .ok (.if_icmp .ne off, 3)) (ht : (pc : Int) + off = (tgt : Int)) (k : J E nL g ws lv cells slots tgt st) : J E nL g ws lv cells slots pc (.int y :: .int x :: st) := j_nne hg a b hx hy ha hb hd ht (fun _ => k) (fun z => absurd h (by omega))
theorem j_nne_f (hg : Ok E nL g l0 cc own Ts R0) {x y : Int32} {off : Int} {tgt : Nat} (a b : Nat) (hx : x = nI a) (hy : y = nI b) (ha : a < 2147483648) (hb : b < 2147483648) (h : a = b) (hd : decode cc pc = .ok (.if_icmp .ne off, 3)) (ht : (pc : Int) + off = (tgt : Int)) (k : J E nL g ws lv cells slots (pc + 3) st) : J E nL g ws lv cells slots pc (.int y :: .int x :: st) := j_nne hg a b hx hy ha hb hd ht (fun z => absurd h (by omega)) (fun _ => k)
theorem j_zge (hg : Ok E nL g l0 cc own Ts R0) {x : Int32} {off : Int} {tgt : Nat} (a : Nat) (hx : x = nI a) (ha : a < 2147483648) (hd : decode cc pc = .ok (.ifCond .ge off, 3)) (ht : (pc : Int) + off = (tgt : Int)) (kt : 0 ≤ a → J E nL g ws lv cells slots tgt st) (kf : a < 0 → J E nL g ws lv cells slots (pc + 3) st) : J E nL g ws lv cells slots pc (.int x :: st) := by
  subst hx
  have h0 : (0 : Nat) < 2147483648 := by decide
  exact j_if_ge hg hd ht (fun c => kt ((nI_leI h0 ha).mp c)) (fun c => kf (Nat.not_le.mp (fun z => c ((nI_leI h0 ha).mpr z))))
theorem j_zge_t (hg : Ok E nL g l0 cc own Ts R0) {x : Int32} {off : Int} {tgt : Nat} (a : Nat) (hx : x = nI a) (ha : a < 2147483648) (h : 0 ≤ a) (hd : decode cc pc = .ok (.ifCond .ge off, 3)) (ht : (pc : Int) + off = (tgt : Int)) (k : J E nL g ws lv cells slots tgt st) : J E nL g ws lv cells slots pc (.int x :: st) := j_zge hg a hx ha hd ht (fun _ => k) (fun z => absurd h (by omega))
theorem j_zge_f (hg : Ok E nL g l0 cc own Ts R0) {x : Int32} {off : Int} {tgt : Nat} (a : Nat) (hx : x = nI a) (ha : a < 2147483648) (h : a < 0) (hd : decode cc pc = .ok (.ifCond .ge off, 3)) (ht : (pc : Int) + off = (tgt : Int)) (k : J E nL g ws lv cells slots (pc + 3) st) : J E nL g ws lv cells slots pc (.int x :: st) := j_zge hg a hx ha hd ht (fun z => absurd h (by omega)) (fun _ => k)
theorem j_zlt (hg : Ok E nL g l0 cc own Ts R0) {x : Int32} {off : Int} {tgt : Nat} (a : Nat) (hx : x = nI a) (ha : a < 2147483648) (hd : decode cc pc = .ok (.ifCond .lt off, 3)) (ht : (pc : Int) + off = (tgt : Int)) (kt : a < 0 → J E nL g ws lv cells slots tgt st) (kf : 0 ≤ a → J E nL g ws lv cells slots (pc + 3) st) : J E nL g ws lv cells slots pc (.int x :: st) := by
  subst hx
  have h0 : (0 : Nat) < 2147483648 := by decide
  exact j_if_lt hg hd ht (fun c => kt ((nI_ltI ha h0).mp c)) (fun c => kf (Nat.not_lt.mp (fun z => c ((nI_ltI ha h0).mpr z))))
theorem j_zlt_t (hg : Ok E nL g l0 cc own Ts R0) {x : Int32} {off : Int} {tgt : Nat} (a : Nat) (hx : x = nI a) (ha : a < 2147483648) (h : a < 0) (hd : decode cc pc = .ok (.ifCond .lt off, 3)) (ht : (pc : Int) + off = (tgt : Int)) (k : J E nL g ws lv cells slots tgt st) : J E nL g ws lv cells slots pc (.int x :: st) := j_zlt hg a hx ha hd ht (fun _ => k) (fun z => absurd h (by omega))
theorem j_zlt_f (hg : Ok E nL g l0 cc own Ts R0) {x : Int32} {off : Int} {tgt : Nat} (a : Nat) (hx : x = nI a) (ha : a < 2147483648) (h : 0 ≤ a) (hd : decode cc pc = .ok (.ifCond .lt off, 3)) (ht : (pc : Int) + off = (tgt : Int)) (k : J E nL g ws lv cells slots (pc + 3) st) : J E nL g ws lv cells slots pc (.int x :: st) := j_zlt hg a hx ha hd ht (fun z => absurd h (by omega)) (fun _ => k)
theorem j_zgt (hg : Ok E nL g l0 cc own Ts R0) {x : Int32} {off : Int} {tgt : Nat} (a : Nat) (hx : x = nI a) (ha : a < 2147483648) (hd : decode cc pc = .ok (.ifCond .gt off, 3)) (ht : (pc : Int) + off = (tgt : Int)) (kt : 0 < a → J E nL g ws lv cells slots tgt st) (kf : a ≤ 0 → J E nL g ws lv cells slots (pc + 3) st) : J E nL g ws lv cells slots pc (.int x :: st) := by
  subst hx
  have h0 : (0 : Nat) < 2147483648 := by decide
  exact j_if_gt hg hd ht (fun c => kt ((nI_ltI h0 ha).mp c)) (fun c => kf (Nat.not_lt.mp (fun z => c ((nI_ltI h0 ha).mpr z))))
theorem j_zgt_t (hg : Ok E nL g l0 cc own Ts R0) {x : Int32} {off : Int} {tgt : Nat} (a : Nat) (hx : x = nI a) (ha : a < 2147483648) (h : 0 < a) (hd : decode cc pc = .ok (.ifCond .gt off, 3)) (ht : (pc : Int) + off = (tgt : Int)) (k : J E nL g ws lv cells slots tgt st) : J E nL g ws lv cells slots pc (.int x :: st) := j_zgt hg a hx ha hd ht (fun _ => k) (fun z => absurd h (by omega))
theorem j_zgt_f (hg : Ok E nL g l0 cc own Ts R0) {x : Int32} {off : Int} {tgt : Nat} (a : Nat) (hx : x = nI a) (ha : a < 2147483648) (h : a ≤ 0) (hd : decode cc pc = .ok (.ifCond .gt off, 3)) (ht : (pc : Int) + off = (tgt : Int)) (k : J E nL g ws lv cells slots (pc + 3) st) : J E nL g ws lv cells slots pc (.int x :: st) := j_zgt hg a hx ha hd ht (fun z => absurd h (by omega)) (fun _ => k)
theorem j_zle (hg : Ok E nL g l0 cc own Ts R0) {x : Int32} {off : Int} {tgt : Nat} (a : Nat) (hx : x = nI a) (ha : a < 2147483648) (hd : decode cc pc = .ok (.ifCond .le off, 3)) (ht : (pc : Int) + off = (tgt : Int)) (kt : a ≤ 0 → J E nL g ws lv cells slots tgt st) (kf : 0 < a → J E nL g ws lv cells slots (pc + 3) st) : J E nL g ws lv cells slots pc (.int x :: st) := by
  subst hx
  have h0 : (0 : Nat) < 2147483648 := by decide
  exact j_if_le hg hd ht (fun c => kt ((nI_leI ha h0).mp c)) (fun c => kf (Nat.not_le.mp (fun z => c ((nI_leI ha h0).mpr z))))
theorem j_zle_t (hg : Ok E nL g l0 cc own Ts R0) {x : Int32} {off : Int} {tgt : Nat} (a : Nat) (hx : x = nI a) (ha : a < 2147483648) (h : a ≤ 0) (hd : decode cc pc = .ok (.ifCond .le off, 3)) (ht : (pc : Int) + off = (tgt : Int)) (k : J E nL g ws lv cells slots tgt st) : J E nL g ws lv cells slots pc (.int x :: st) := j_zle hg a hx ha hd ht (fun _ => k) (fun z => absurd h (by omega))
theorem j_zle_f (hg : Ok E nL g l0 cc own Ts R0) {x : Int32} {off : Int} {tgt : Nat} (a : Nat) (hx : x = nI a) (ha : a < 2147483648) (h : 0 < a) (hd : decode cc pc = .ok (.ifCond .le off, 3)) (ht : (pc : Int) + off = (tgt : Int)) (k : J E nL g ws lv cells slots (pc + 3) st) : J E nL g ws lv cells slots pc (.int x :: st) := j_zle hg a hx ha hd ht (fun z => absurd h (by omega)) (fun _ => k)
theorem j_zeq (hg : Ok E nL g l0 cc own Ts R0) {x : Int32} {off : Int} {tgt : Nat} (a : Nat) (hx : x = nI a) (ha : a < 2147483648) (hd : decode cc pc = .ok (.ifCond .eq off, 3)) (ht : (pc : Int) + off = (tgt : Int)) (kt : a = 0 → J E nL g ws lv cells slots tgt st) (kf : a ≠ 0 → J E nL g ws lv cells slots (pc + 3) st) : J E nL g ws lv cells slots pc (.int x :: st) := by
  subst hx
  have h0 : (0 : Nat) < 2147483648 := by decide
  exact j_if_eq hg hd ht (fun c => kt ((nI_eq ha h0).mp c)) (fun c => kf (fun z => c ((nI_eq ha h0).mpr z)))
theorem j_zeq_t (hg : Ok E nL g l0 cc own Ts R0) {x : Int32} {off : Int} {tgt : Nat} (a : Nat) (hx : x = nI a) (ha : a < 2147483648) (h : a = 0) (hd : decode cc pc = .ok (.ifCond .eq off, 3)) (ht : (pc : Int) + off = (tgt : Int)) (k : J E nL g ws lv cells slots tgt st) : J E nL g ws lv cells slots pc (.int x :: st) := j_zeq hg a hx ha hd ht (fun _ => k) (fun z => absurd h (by omega))
theorem j_zeq_f (hg : Ok E nL g l0 cc own Ts R0) {x : Int32} {off : Int} {tgt : Nat} (a : Nat) (hx : x = nI a) (ha : a < 2147483648) (h : a ≠ 0) (hd : decode cc pc = .ok (.ifCond .eq off, 3)) (ht : (pc : Int) + off = (tgt : Int)) (k : J E nL g ws lv cells slots (pc + 3) st) : J E nL g ws lv cells slots pc (.int x :: st) := j_zeq hg a hx ha hd ht (fun z => absurd h (by omega)) (fun _ => k)
theorem j_zne (hg : Ok E nL g l0 cc own Ts R0) {x : Int32} {off : Int} {tgt : Nat} (a : Nat) (hx : x = nI a) (ha : a < 2147483648) (hd : decode cc pc = .ok (.ifCond .ne off, 3)) (ht : (pc : Int) + off = (tgt : Int)) (kt : a ≠ 0 → J E nL g ws lv cells slots tgt st) (kf : a = 0 → J E nL g ws lv cells slots (pc + 3) st) : J E nL g ws lv cells slots pc (.int x :: st) := by
  subst hx
  have h0 : (0 : Nat) < 2147483648 := by decide
  exact j_if_ne hg hd ht (fun c => kt (fun z => c ((nI_eq ha h0).mpr z))) (fun c => kf ((nI_eq ha h0).mp c))
theorem j_zne_t (hg : Ok E nL g l0 cc own Ts R0) {x : Int32} {off : Int} {tgt : Nat} (a : Nat) (hx : x = nI a) (ha : a < 2147483648) (h : a ≠ 0) (hd : decode cc pc = .ok (.ifCond .ne off, 3)) (ht : (pc : Int) + off = (tgt : Int)) (k : J E nL g ws lv cells slots tgt st) : J E nL g ws lv cells slots pc (.int x :: st) := j_zne hg a hx ha hd ht (fun _ => k) (fun z => absurd h (by omega))
theorem j_zne_f (hg : Ok E nL g l0 cc own Ts R0) {x : Int32} {off : Int} {tgt : Nat} (a : Nat) (hx : x = nI a) (ha : a < 2147483648) (h : a = 0) (hd : decode cc pc = .ok (.ifCond .ne off, 3)) (ht : (pc : Int) + off = (tgt : Int)) (k : J E nL g ws lv cells slots (pc + 3) st) : J E nL g ws lv cells slots pc (.int x :: st) := j_zne hg a hx ha hd ht (fun z => absurd h (by omega)) (fun _ => k)
theorem j_gets (hg : Ok E nL g l0 cc own Ts R0) {C n d : String} {ty : FieldType} {N index : Nat} {f : Nat → Value} (z : Nat) (hz : sT[z]? = some (C, n, d, ty, N, f)) (hl : Cond.fieldLink own index C n d ∈ Ts) (hd : decode cc pc = .ok (.getstatic index, 3)) (k : J E nL g ws lv cells slots (pc + 3) (.ref (E.2.2 z) :: st)) : J E nL g ws lv cells slots pc st := by
  obtain ⟨p, l, e, R, s, m, args, below, meth, c, A, Q⟩ := g
  have hZ := (hg.2.2.2.2.2.2.2.1 z _ hz).1
  exact fun H locs ls hP hD hS hl9 => va_gets hg.1 hg.2.1 hZ hS hg.2.2.2.1 (hg.2.2.2.2.1 _ hl) (fun _ h9 => h9) hd (k H locs ls hP hD hS hl9)
theorem j_sti (hg : Ok E nL g l0 cc own Ts R0) {C n d : String} {N : Nat} {f : Nat → Int32} {i v : Int32} (z j : Nat) (hz : sT[z]? = some (C, n, d, .int, N, fun j => .int (f j))) (hi : i = nI j) (hj : j < N) (hn : N < 2147483648) (hv : f j = v) (hd : decode cc pc = .ok (.iaload, 1)) (k : J E nL g ws lv cells slots (pc + 1) (.int v :: st)) : J E nL g ws lv cells slots pc (.int i :: .ref (E.2.2 z) :: st) := by
  obtain ⟨p, l, e, R, s, m, args, below, meth, c, A, Q⟩ := g
  subst hi hv
  have e : (nI j).toNatClampNeg = j := nI_clamp (by omega)
  have hT := (hg.2.2.2.2.2.2.2.1 z _ hz).2
  exact fun H locs ls hP hD hS hl9 => va_ti hg.1 hg.2.1 hT hS (vp_in_nI hj hn) (by rw [e]) hd (k H locs ls hP hD hS hl9)
theorem j_new (hg : Ok E nL g l0 cc own Ts R0) {C : String} {T : u_T} {N ci index : Nat} {fs : List Value} (hin : ∀ w ∈ u_ws C T N, w ∈ Ts) (ty : Nat → FieldType) (hty : ∀ k, k < N → parseFieldDescriptor (T k).2.2.1 = some (ty k)) (hcl : Cond.classLink own index C ∈ Ts) (hinst : Cond.instantiable C N ∈ Ts) (hini : Cond.initialized C ∈ Ts) (hc : vwCl[ci]? = some (C, T, N)) (hfs : ∀ j, j < N → defaultValue (ty j) = vp_V fs j) (hcells : cells + 1 ≤ R0.cells) (hslots : slots + N ≤ R0.slots) (hd : decode cc pc = .ok (.new index, 3)) (k : ∀ q : Nat, J E nL g (ws ++ [ob q ci fs]) lv (cells + 1) (slots + N) (pc + 3) (.ref q :: st)) : J E nL g ws lv cells slots pc st := by
  obtain ⟨p, l, e, R, s, m, args, below, meth, c, A, Q⟩ := g
  have hRR := hg.2.2.2.2.2.2.2.2.1
  subst hRR
  exact fun H locs ls hP hD hS hl9 => va_new hg.1 hg.2.1 hg.2.2.2.2.1 hin ty hty hg.2.2.2.1 (hg.2.2.2.2.1 _ hcl) (hg.2.2.2.2.1 _ hinst) (hg.2.2.2.2.1 _ hini) hg.2.2.2.2.2.1 hP hD hS hg.2.2.2.2.2.2.1 hc hfs hcells hslots hd (fun q H1 hP1 hD1 hS1 => k q H1 locs ls hP1 hD1 hS1 hl9)
theorem eT_cls {E : Ev} {U : State} {tys : List (ClassId × FieldType)} {cA : ClassId} {ty : FieldType} (hK : va_K E.1 vwCl (tys ++ [(cA, ty)]) U) : ArrOfT U cA ty ∧ va_RA U cA ty := hK.2 tys.length (cA, ty) (by simp)
theorem j_newB (hg : Ok E nL g l0 cc own Ts R0) {n : Int32} (N : Nat) (hA : Cond.arrayClass .byte ∈ Ts) (hn : n = nI N) (hN : N < 1000000) (hcells : cells + 1 ≤ R0.cells) (hslots : slots + N ≤ R0.slots) (hd : decode cc pc = .ok (.newarray .byte, 2)) (k : ∀ q : Nat, J E nL g (ws ++ [aB E q N (fun _ => 0)]) lv (cells + 1) (slots + N) (pc + 2) (.ref q :: st)) : J E nL g ws lv cells slots pc (.int n :: st) := by
  obtain ⟨p, l, e, R, s, m, args, below, meth, c, A, Q⟩ := g
  have hRR := hg.2.2.2.2.2.2.2.2.1
  subst hRR
  subst hn
  intro H locs ls hP hD hS hl9
  refine va_newa (atype := .byte) (ty := .byte) (a0 := (N, .inl (fun _ => 0))) hg.1 hg.2.1 (hg.2.2.2.2.1 _ hA) rfl hg.2.2.2.2.2.1 hP hD hS hg.2.2.2.2.2.2.1 (fun cA => rfl) (nI_pos (by omega)) (nI_clamp (by omega)) (by show N * 1 ≤ _; omega) hcells hslots hd (fun q cA H1 hK1 hP1 hD1 hS1 => ?_)
  have e1 : s.vm.findClass _ = some cA := (eT_cls hK1).2
  have e2 : s.vm.findClass _ = some E.2.1.1 := (hg.2.2.2.2.2.1.2 0 _ rfl).2
  have e3 : cA = E.2.1.1 := Option.some.inj (e1.symm.trans e2)
  subst e3
  exact k q H1 locs ls hP1 hD1 hS1 hl9
theorem j_newI (hg : Ok E nL g l0 cc own Ts R0) {n : Int32} (N : Nat) (hA : Cond.arrayClass .int ∈ Ts) (hn : n = nI N) (hN : N < 1000000) (hcells : cells + 1 ≤ R0.cells) (hslots : slots + N ≤ R0.slots) (hd : decode cc pc = .ok (.newarray .int, 2)) (k : ∀ q : Nat, J E nL g (ws ++ [aI E q N (fun _ => 0)]) lv (cells + 1) (slots + N) (pc + 2) (.ref q :: st)) : J E nL g ws lv cells slots pc (.int n :: st) := by
  obtain ⟨p, l, e, R, s, m, args, below, meth, c, A, Q⟩ := g
  have hRR := hg.2.2.2.2.2.2.2.2.1
  subst hRR
  subst hn
  intro H locs ls hP hD hS hl9
  refine va_newa (atype := .int) (ty := .int) (a0 := (N, .inl (fun _ => 0))) hg.1 hg.2.1 (hg.2.2.2.2.1 _ hA) rfl hg.2.2.2.2.2.1 hP hD hS hg.2.2.2.2.2.2.1 (fun cA => rfl) (nI_pos (by omega)) (nI_clamp (by omega)) (by show N * 4 ≤ _; omega) hcells hslots hd (fun q cA H1 hK1 hP1 hD1 hS1 => ?_)
  have e1 : s.vm.findClass _ = some cA := (eT_cls hK1).2
  have e2 : s.vm.findClass _ = some E.2.1.2.1 := (hg.2.2.2.2.2.1.2 1 _ rfl).2
  have e3 : cA = E.2.1.2.1 := Option.some.inj (e1.symm.trans e2)
  subst e3
  exact k q H1 locs ls hP1 hD1 hS1 hl9
theorem j_newL (hg : Ok E nL g l0 cc own Ts R0) {n : Int32} (N : Nat) (hA : Cond.arrayClass .long ∈ Ts) (hn : n = nI N) (hN : N < 1000000) (hcells : cells + 1 ≤ R0.cells) (hslots : slots + N ≤ R0.slots) (hd : decode cc pc = .ok (.newarray .long, 2)) (k : ∀ q : Nat, J E nL g (ws ++ [aL E q N (fun _ => 0)]) lv (cells + 1) (slots + N) (pc + 2) (.ref q :: st)) : J E nL g ws lv cells slots pc (.int n :: st) := by
  obtain ⟨p, l, e, R, s, m, args, below, meth, c, A, Q⟩ := g
  have hRR := hg.2.2.2.2.2.2.2.2.1
  subst hRR
  subst hn
  intro H locs ls hP hD hS hl9
  refine va_newa (atype := .long) (ty := .long) (a0 := (N, .inr (.inl (fun _ => 0)))) hg.1 hg.2.1 (hg.2.2.2.2.1 _ hA) rfl hg.2.2.2.2.2.1 hP hD hS hg.2.2.2.2.2.2.1 (fun cA => rfl) (nI_pos (by omega)) (nI_clamp (by omega)) (by show N * 8 ≤ _; omega) hcells hslots hd (fun q cA H1 hK1 hP1 hD1 hS1 => ?_)
  have e1 : s.vm.findClass _ = some cA := (eT_cls hK1).2
  have e2 : s.vm.findClass _ = some E.2.1.2.2 := (hg.2.2.2.2.2.1.2 2 _ rfl).2
  have e3 : cA = E.2.1.2.2 := Option.some.inj (e1.symm.trans e2)
  subst e3
  exact k q H1 locs ls hP1 hD1 hS1 hl9
theorem j_objInit (hg : Ok E nL g l0 cc own Ts R0) {a idx : Nat} (h1 : Cond.methodLink own idx Lib.objectInit ∈ Ts) (h2 : Cond.instanceMethod Lib.objectInit ∈ Ts) (h3 : Cond.code Lib.objectInit ⟨#[0xb1]⟩ 1 none ∈ Ts) (hd : decode cc pc = .ok (.invokespecial idx, 3)) (hfr : 1 ≤ R0.frames) (hlo : (st.map fun v => v.category).sum + 12 ≤ R0.locals) (k : J E nL g ws lv cells slots (pc + 3) st) : J E nL g ws lv cells slots pc (.ref a :: st) := by
  obtain ⟨p, l, e, R, s, m, args, below, meth, c, A, Q⟩ := g
  have hRR := hg.2.2.2.2.2.2.2.2.1
  subst hRR
  intro H locs ls hP hD hS hl9
  refine W.objInit hg.1 hg.2.1 hg.2.2.2.1 (hg.2.2.2.2.1 _ h1) (hg.2.2.2.2.1 _ h2) (hg.2.2.2.2.1 _ h3) rfl (by rw [hg.2.2.1]; exact hl9.1) rfl hd hfr (by show 2 * 0 + _ + 12 ≤ _; omega) ?_
  exact W.eq (g2 := F0 m (pc + 3) ls st) rfl (k H locs ls hP hD hS hl9)
theorem j_mmin (hg : Ok E nL g l0 cc own Ts R0) {index : Nat} {x y v : Int32} (h1 : Cond.methodLink own index Lib.Math.min.name ∈ Ts) (h2 : Cond.static Lib.Math.min.name ∈ Ts) (h3 : Cond.initialized "java/lang/Math" ∈ Ts) (h4 : Cond.code Lib.Math.min.name Lib.Math.min.code 2 (some .int) ∈ Ts) (hfr : 1 ≤ R0.frames) (hlo : (st.map fun v => v.category).sum + 13 ≤ R0.locals) (hc : cells ≤ R0.cells) (hs : slots ≤ R0.slots) (hv : (if y < x then y else x) = v) (hd : decode cc pc = .ok (.invokestatic index, 3)) (k : J E nL g ws lv cells slots (pc + 3) (.int v :: st)) : J E nL g ws lv cells slots pc (.int y :: .int x :: st) := by
  obtain ⟨p, l, e, R, s, m, args, below, meth, c, A, Q⟩ := g
  have hRR := hg.2.2.2.2.2.2.2.2.1
  subst hRR
  subst hv
  exact fun H locs ls hP hD hS hl9 => va_mmin hg.1 hg.2.1 (by rw [hg.2.2.1]; exact hl9.1.symm) hg.2.2.2.1 (hg.2.2.2.2.1 _ h1) (hg.2.2.2.2.1 _ h2) (hg.2.2.2.2.1 _ h3) (hg.2.2.2.2.1 _ h4) hfr hlo hc hs hd (k H locs ls hP hD hS hl9)
/-- System.arraycopy: the four words; the counts by numbers -/
def acW (Ts : List Cond) (own : String) (index : Nat) : Prop := Cond.methodLink own index arraycopyName ∈ Ts ∧ Cond.native arraycopyName ∈ Ts ∧ Cond.static arraycopyName ∈ Ts ∧ Cond.initialized "java/lang/System" ∈ Ts
theorem j_copyB (hg : Ok E nL g l0 cc own Ts R0) {index a0 a n0 n1 : Nat} {f h : Nat → Int32} {sp dp n : Int32} {ws' : va_W} (q0 q1 i j k0 : Nat) (hw4 : acW Ts own index) (ha0 : ws[q0]? = some (aB E a0 n0 f)) (ha1 : ws[q1]? = some (aB E a n1 h)) (hsp : sp = nI i) (hdp : dp = nI j) (hn : n = nI k0) (h4 : i + k0 ≤ n0) (h5 : j + k0 ≤ n1) (hn0 : n0 < 2147483648) (hn1 : n1 < 2147483648) (hfit : ∀ t, t < k0 → fits .byte (.int (f (i + t))) = true) (hfr : 1 ≤ R0.frames) (hlo : (st.map fun v => v.category).sum + (nativeFrameWords "java/lang/System" "arraycopy" 5 + 11) ≤ R0.locals) (hw : ws.set q1 (aB E a n1 (va_cpy f h i j k0)) = ws') (hd : decode cc pc = .ok (.invokestatic index, 3)) (k : J E nL g ws' lv cells slots (pc + 3) st) : J E nL g ws lv cells slots pc (.int n :: .int dp :: .ref a :: .int sp :: .ref a0 :: st) := by
  obtain ⟨p, l, e, R, s, m, args, below, meth, c, A, Q⟩ := g
  have hRR := hg.2.2.2.2.2.2.2.2.1
  subst hRR
  subst hw hsp hdp hn
  have e1 : (nI i).toNatClampNeg = i := nI_clamp (by omega)
  have e2 : (nI j).toNatClampNeg = j := nI_clamp (by omega)
  have e3 : (nI k0).toNatClampNeg = k0 := nI_clamp (by omega)
  exact fun H locs ls hP hD hS hl9 => va_copyi hg.1 hg.2.1 (by rw [hg.2.2.1]; exact hl9.1.symm) hg.2.2.2.1 (hg.2.2.2.2.1 _ hw4.1) (hg.2.2.2.2.1 _ hw4.2.1) (hg.2.2.2.2.1 _ hw4.2.2.1) (hg.2.2.2.2.1 _ hw4.2.2.2) hg.2.2.2.2.2.1 hP hD hS q0 q1 0 0 ha0 ha1 rfl rfl rfl (nI_pos (by omega)) (nI_pos (by omega)) (nI_pos (by omega)) (by rw [e1, e3]; exact h4) (by rw [e2, e3]; exact h5) (by rw [e1, e3]; exact hfit) hfr hlo hd (fun H1 locs1 hP1 hD1 hS1 => by rw [e1, e2, e3] at hP1 hD1; exact k H1 locs1 ls hP1 hD1 hS1 hl9)
theorem j_copyI (hg : Ok E nL g l0 cc own Ts R0) {index a0 a n0 n1 : Nat} {f h : Nat → Int32} {sp dp n : Int32} {ws' : va_W} (q0 q1 i j k0 : Nat) (hw4 : acW Ts own index) (ha0 : ws[q0]? = some (aI E a0 n0 f)) (ha1 : ws[q1]? = some (aI E a n1 h)) (hsp : sp = nI i) (hdp : dp = nI j) (hn : n = nI k0) (h4 : i + k0 ≤ n0) (h5 : j + k0 ≤ n1) (hn0 : n0 < 2147483648) (hn1 : n1 < 2147483648) (hfr : 1 ≤ R0.frames) (hlo : (st.map fun v => v.category).sum + (nativeFrameWords "java/lang/System" "arraycopy" 5 + 11) ≤ R0.locals) (hw : ws.set q1 (aI E a n1 (va_cpy f h i j k0)) = ws') (hd : decode cc pc = .ok (.invokestatic index, 3)) (k : J E nL g ws' lv cells slots (pc + 3) st) : J E nL g ws lv cells slots pc (.int n :: .int dp :: .ref a :: .int sp :: .ref a0 :: st) := by
  obtain ⟨p, l, e, R, s, m, args, below, meth, c, A, Q⟩ := g
  have hRR := hg.2.2.2.2.2.2.2.2.1
  subst hRR
  subst hw hsp hdp hn
  have e1 : (nI i).toNatClampNeg = i := nI_clamp (by omega)
  have e2 : (nI j).toNatClampNeg = j := nI_clamp (by omega)
  have e3 : (nI k0).toNatClampNeg = k0 := nI_clamp (by omega)
  exact fun H locs ls hP hD hS hl9 => va_copyi hg.1 hg.2.1 (by rw [hg.2.2.1]; exact hl9.1.symm) hg.2.2.2.1 (hg.2.2.2.2.1 _ hw4.1) (hg.2.2.2.2.1 _ hw4.2.1) (hg.2.2.2.2.1 _ hw4.2.2.1) (hg.2.2.2.2.1 _ hw4.2.2.2) hg.2.2.2.2.2.1 hP hD hS q0 q1 1 1 ha0 ha1 rfl rfl rfl (nI_pos (by omega)) (nI_pos (by omega)) (nI_pos (by omega)) (by rw [e1, e3]; exact h4) (by rw [e2, e3]; exact h5) (fun _ _ => rfl) hfr hlo hd (fun H1 locs1 hP1 hD1 hS1 => by rw [e1, e2, e3] at hP1 hD1; exact k H1 locs1 ls hP1 hD1 hS1 hl9)
theorem j_copyL (hg : Ok E nL g l0 cc own Ts R0) {index a0 a n0 n1 : Nat} {f h : Nat → Int64} {sp dp n : Int32} {ws' : va_W} (q0 q1 i j k0 : Nat) (hw4 : acW Ts own index) (ha0 : ws[q0]? = some (aL E a0 n0 f)) (ha1 : ws[q1]? = some (aL E a n1 h)) (hsp : sp = nI i) (hdp : dp = nI j) (hn : n = nI k0) (h4 : i + k0 ≤ n0) (h5 : j + k0 ≤ n1) (hn0 : n0 < 2147483648) (hn1 : n1 < 2147483648) (hfr : 1 ≤ R0.frames) (hlo : (st.map fun v => v.category).sum + (nativeFrameWords "java/lang/System" "arraycopy" 5 + 11) ≤ R0.locals) (hw : ws.set q1 (aL E a n1 (va_cpy f h i j k0)) = ws') (hd : decode cc pc = .ok (.invokestatic index, 3)) (k : J E nL g ws' lv cells slots (pc + 3) st) : J E nL g ws lv cells slots pc (.int n :: .int dp :: .ref a :: .int sp :: .ref a0 :: st) := by
  obtain ⟨p, l, e, R, s, m, args, below, meth, c, A, Q⟩ := g
  have hRR := hg.2.2.2.2.2.2.2.2.1
  subst hRR
  subst hw hsp hdp hn
  have e1 : (nI i).toNatClampNeg = i := nI_clamp (by omega)
  have e2 : (nI j).toNatClampNeg = j := nI_clamp (by omega)
  have e3 : (nI k0).toNatClampNeg = k0 := nI_clamp (by omega)
  exact fun H locs ls hP hD hS hl9 => va_copyl hg.1 hg.2.1 (by rw [hg.2.2.1]; exact hl9.1.symm) hg.2.2.2.1 (hg.2.2.2.2.1 _ hw4.1) (hg.2.2.2.2.1 _ hw4.2.1) (hg.2.2.2.2.1 _ hw4.2.2.1) (hg.2.2.2.2.1 _ hw4.2.2.2) hg.2.2.2.2.2.1 hP hD hS q0 q1 2 2 ha0 ha1 rfl rfl rfl (nI_pos (by omega)) (nI_pos (by omega)) (nI_pos (by omega)) (by rw [e1, e3]; exact h4) (by rw [e2, e3]; exact h5) (fun _ _ => rfl) hfr hlo hd (fun H1 locs1 hP1 hD1 hS1 => by rw [e1, e2, e3] at hP1 hD1; exact k H1 locs1 ls hP1 hD1 hS1 hl9)
-- returns
section RET
variable {w0 : va_W} {S : Type} {post : S → Prop} {r : S → Option Value} {w1 : S → va_W} {nm : String}
theorem j_iret {ret : FieldType} (hg : Ok E nL g l0 cc own Ts R0) (hR : Rt E g w0 S post r w1 R0 (some ret) nm) {v : Int32} (hnar : narrow ret (.int v) = .int v) (u : S) (hp : post u) (hr : r u = some (.int v)) (is : List Nat) (hw : is.map (fun i => ws[i]?) = (w1 u).map some) (hn : va_nd is = true) (hc : cells ≤ R0.cells) (hs : slots ≤ R0.slots) (hd : decode cc pc = .ok (.ireturn, 1)) : J E nL g ws lv cells slots pc [.int v] := by
  obtain ⟨p, l, e, R, s, m, args, below, meth, c, A, Q⟩ := g
  intro H locs ls hP hD hS hl9
  obtain ⟨rfl, rfl, hrt, -⟩ := hR
  have hlocks : meth.locks = false := hg.2.2.2.2.2.2.2.2.2.1
  refine W.widen hc hs ?_
  exact W.zret hg.1 hg.2.1 hrt hnar (fun t ht hW => ⟨⟨u, by rw [hr], hp, by rw [ht]; exact hP.sub is (fm_of_map hw), va_K.moved hW.alike hg.2.2.2.2.2.1, hD.sub is hn hw⟩, hS.F ht⟩) hS.2.2 hd
theorem j_lret (hg : Ok E nL g l0 cc own Ts R0) (hR : Rt E g w0 S post r w1 R0 (some .long) nm) {v : Int64} (u : S) (hp : post u) (hr : r u = some (.long v)) (is : List Nat) (hw : is.map (fun i => ws[i]?) = (w1 u).map some) (hn : va_nd is = true) (hc : cells ≤ R0.cells) (hs : slots ≤ R0.slots) (hd : decode cc pc = .ok (.lreturn, 1)) : J E nL g ws lv cells slots pc [.long v] := by
  obtain ⟨p, l, e, R, s, m, args, below, meth, c, A, Q⟩ := g
  intro H locs ls hP hD hS hl9
  obtain ⟨rfl, rfl, hrt, -⟩ := hR
  have hlocks : meth.locks = false := hg.2.2.2.2.2.2.2.2.2.1
  refine W.widen hc hs ?_
  exact W.lret hg.1 hg.2.1 hrt (fun t ht hW => ⟨⟨u, by rw [hr], hp, by rw [ht]; exact hP.sub is (fm_of_map hw), va_K.moved hW.alike hg.2.2.2.2.2.1, hD.sub is hn hw⟩, hS.F ht⟩) hS.2.2 hd
theorem j_vret (hg : Ok E nL g l0 cc own Ts R0) (hR : Rt E g w0 S post r w1 R0 none nm) (u : S) (hp : post u) (hr : r u = none) (is : List Nat) (hw : is.map (fun i => ws[i]?) = (w1 u).map some) (hn : va_nd is = true) (hc : cells ≤ R0.cells) (hs : slots ≤ R0.slots) (hd : decode cc pc = .ok (.return_, 1)) : J E nL g ws lv cells slots pc [] := by
  obtain ⟨p, l, e, R, s, m, args, below, meth, c, A, Q⟩ := g
  intro H locs ls hP hD hS hl9
  obtain ⟨rfl, rfl, hrt, -⟩ := hR
  have hlocks : meth.locks = false := hg.2.2.2.2.2.2.2.2.2.1
  refine W.widen hc hs ?_
  exact W.vret hg.1 hg.2.1 hrt (fun t ht hW => ⟨⟨u, by rw [hr], hp, by rw [ht]; exact hP.sub is (fm_of_map hw), va_K.moved hW.alike hg.2.2.2.2.2.1, hD.sub is hn hw⟩, hS.F ht⟩) hS.2.2 hd
theorem j_aret {rt : FieldType} (hg : Ok E nL g l0 cc own Ts R0) (hR : Rt E g w0 S post r w1 R0 (some rt) nm) (hrt2 : (∃ n, rt = .object n) ∨ ∃ t, rt = .array t) {a : Nat} (u : S) (hp : post u) (hr : r u = some (.ref a)) (is : List Nat) (hw : is.map (fun i => ws[i]?) = (w1 u).map some) (hn : va_nd is = true) (hc : cells ≤ R0.cells) (hs : slots ≤ R0.slots) (hd : decode cc pc = .ok (.areturn, 1)) : J E nL g ws lv cells slots pc [.ref a] := by
  obtain ⟨p, l, e, R, s, m, args, below, meth, c, A, Q⟩ := g
  intro H locs ls hP hD hS hl9
  obtain ⟨rfl, rfl, hrt, -⟩ := hR
  have hlocks : meth.locks = false := hg.2.2.2.2.2.2.2.2.2.1
  refine W.widen hc hs ?_
  exact W.aret hg.1 hg.2.1 hrt hrt2 (Or.inr ⟨a, rfl⟩) (fun t ht hW => ⟨⟨u, by rw [hr], hp, by rw [ht]; exact hP.sub is (fm_of_map hw), va_K.moved hW.alike hg.2.2.2.2.2.1, hD.sub is hn hw⟩, hS.F ht⟩) hS.2.2 hd
end RET
-- calls
section CALL
variable {y : MethodName} {Ws : List Cond} {rm : Room} {as : List Value} {w0 : va_W} {S : Type} {post : S → Prop} {r : S → Option Value} {w1 : S → va_W}
/-- what a callee finds: its cells cut out of ours -/
theorem pcM_at {p : Program} {l : Launch} {e : Env} {R : Room} {s : State} {m : MethodId} {args : Array Value} {below : List Frame} {meth : Method} {c : Code} {A : Nat → Prop} {Q : State → Prop} {H : Heap} {locs : List Loc}
    (hg : Ok E nL (p, l, e, R, s, m, args, below, meth, c, A, Q) l0 cc own Ts R0) (isC : List Nat) (hC : isC.map (fun i => ws[i]?) = w0.map some) (hnC : va_nd isC = true) (hP : va_P E.1 vwCl ws H) (hD : va_D A ws) (hS : va_S A s.heap H locs) :
    ∀ U : State, U.heap = H → s.WarmedH U.vm → PcM E as w0 H.size as.toArray U := by
  intro U hU hW
  have hF := va_free (wc := w0) hD hS hg.2.2.2.2.2.2.1 isC hC
  refine ⟨rfl, by rw [hU], by rw [hU]; exact hP.sub isC (fm_of_map hC), va_K.moved hW.alike hg.2.2.2.2.2.1, (hD.sub isC hnC hC).weaken (fun _ _ _ _ => trivial), ?_, hg.2.2.2.2.2.2.2.2.2.2.2.warm hW⟩
  rw [hU]
  exact ((hg.2.2.2.2.2.2.2.1.kept (fun a h1 h2 => hS.2.1 a h1 h2)).moved hW.alike).narrow hF
theorem j_run {st0 rest : List Value} {wr : va_W} (hg : Ok E nL g l0 cc own Ts R0) (isC isR : List Nat) (hC : isC.map (fun i => ws[i]?) = w0.map some) (hR : isR.map (fun i => ws[i]?) = wr.map some) (hn : va_nd isR = true) (hdis : ∀ i ∈ isR, i ∉ isC)
    (run : ∀ p l e R s m args below meth c A Q H locs ls, g = (p, l, e, R, s, m, args, below, meth, c, A, Q) → va_P E.1 vwCl ws H → va_D A ws → va_S A s.heap H locs → lv_has ls nL lv → va_Run p l e R s m args below meth c H locs cells slots rm.cells rm.slots (F0 m pc ls st0) rest (QcM E w0 H.size S post r w1 as.toArray) (va_A w0 H.size))
    (kk : ∀ u : S, post u → J E nL g (wr ++ w1 u) lv (cells + rm.cells) (slots + rm.slots) (pc + 3) ((r u).toList ++ rest)) : J E nL g ws lv cells slots pc st0 := by
  obtain ⟨p, l, e, R, s, m, args, below, meth, c, A, Q⟩ := g
  intro H locs ls hP hD hS hl T hT X
  obtain ⟨v, st₀, t, T', L, h0, X', hL, e1, e2, ⟨⟨u, hv, hp, hPu, hKu, hDu⟩, hz, hk⟩, stp⟩ := run p l e R s m args below meth c A Q H locs ls rfl hP hD hS hl T hT X
  have hv' : v = r u := Outcome.returned.inj hv
  subst hv'
  rw [h0] at hz hk
  have hF := va_free (wc := w0) hD hS hg.2.2.2.2.2.2.1 isC hC
  obtain ⟨hP1, hD1⟩ := va_join (wr := wr) (w1 := w1 u) (H1 := T'.heap) hP hD isC isR hC hR hn hdis (fun q h1 h2 => by rw [e1]; exact hk q h1 h2) hF (by rw [e1]; exact hPu) hDu
  obtain ⟨t2, a1, b1⟩ := kk u hp T'.heap (locs ++ L) ls hP1 hD1 ⟨Nat.le_trans hS.1 (by rw [e1]; exact hz), fun q h1 h2 => by rw [e1, hk q (Nat.lt_of_lt_of_le h1 hS.1) (fun z => h2 (hF q z))]; exact hS.2.1 q h1 h2, fun q hq => by
      rcases List.mem_append.mp hq with h | h
      · exact hS.2.2 q h
      · exact hF _ (hL q h)⟩ hl T' rfl X'
  exact ⟨t2, stp t2 a1, b1⟩
theorem j_callV {index maxL n : Nat} {bytes : ByteArray} {ret : Option FieldType} {Ws' : List Cond} {As rest : List Value} {st0 : List Value} {wr : va_W} (hg : Ok E nL g l0 cc own Ts R0) {C : String} {T : u_T} {N b ci : Nat} {fs : List Value} (q0 : Nat) (he : w0[q0]? = some (ob b ci fs)) (hc : vwCl[ci]? = some (C, T, N)) (hM : MC E l0 y Ws rm (.ref b :: As) w0 S post r w1) (hT : GoodIn Ts (wsV own index C y Ws)) (hw : Ws = Cond.code y bytes maxL ret :: Ws') (hdd : y.cls = C ∧ y.cls ≠ "java/lang/invoke/MethodHandle" ∧ y.cls ≠ "java/lang/invoke/VarHandle" ∧ (parseMethodDescriptor y.desc).map (fun d => d.parameters.length) = some n) (hR : rm.frames + 1 ≤ R0.frames ∧ 8 + (maxL + 11) + rm.locals ≤ R0.locals) (hn : As.length = n) (hst : st0 = As.reverse ++ .ref b :: rest) (hcat : (rest.map fun v => v.category).sum ≤ 8) (hf : cells + rm.cells ≤ R0.cells ∧ slots + rm.slots ≤ R0.slots) (isC isR : List Nat) (hC : isC.map (fun i => ws[i]?) = w0.map some) (hRR : isR.map (fun i => ws[i]?) = wr.map some) (hnC : va_nd isC = true) (hnR : va_nd isR = true) (hdis : ∀ i ∈ isR, i ∉ isC) (hd : decode cc pc = .ok (.invokevirtual index, 3)) (kk : ∀ u : S, post u → J E nL g (wr ++ w1 u) lv (cells + rm.cells) (slots + rm.slots) (pc + 3) ((r u).toList ++ rest)) : J E nL g ws lv cells slots pc st0 := by
  refine j_run (as := .ref b :: As) (rm := rm) hg isC isR hC hRR hnR hdis ?_ kk
  intro p l e R s m args below meth c A Q H locs ls hgg hP hD hS hl
  subst hgg
  have hR1 : R = R0 := hg.2.2.2.2.2.2.2.2.1
  have hL1 : l = l0 := hg.2.2.2.2.2.2.2.2.2.2.1
  subst hR1 hL1
  have hts : ∀ w ∈ Ts, w.before args s = true := hg.2.2.2.2.1
  exact va_runV (As := As) (rest := rest) ⟨hg.1, hg.2.1, hg.2.2.1, hg.2.2.2.1, hts⟩ (hM H.size) (cwV n hts hT hw rfl rfl hdd hR) ⟨pcM_blind, va_recv hg.2.2.2.2.2.1 (hP.sub isC (fm_of_map hC)) hc he, pcM_at hg isC hC hnC hP hD hS⟩ rfl hn hl.1 hst (by show 2 * 0 + _ ≤ 8; omega) hd hf
theorem j_callS {index maxL n : Nat} {bytes : ByteArray} {ret : Option FieldType} {Ws' : List Cond} {As rest : List Value} {st0 : List Value} {wr : va_W} (hg : Ok E nL g l0 cc own Ts R0) (hM : MC E l0 y Ws rm (As) w0 S post r w1) (hT : GoodIn Ts (wsS own index y Ws)) (hw : Ws = Cond.code y bytes maxL ret :: Ws') (hdd : y.cls = own ∧ y.cls ≠ "java/lang/invoke/MethodHandle" ∧ y.cls ≠ "java/lang/invoke/VarHandle" ∧ (parseMethodDescriptor y.desc).map (fun d => d.parameters.length) = some n) (hR : rm.frames + 1 ≤ R0.frames ∧ 8 + (maxL + 11) + rm.locals ≤ R0.locals) (hn : As.length = n) (hst : st0 = As.reverse ++ rest) (hcat : (rest.map fun v => v.category).sum ≤ 8) (hf : cells + rm.cells ≤ R0.cells ∧ slots + rm.slots ≤ R0.slots) (isC isR : List Nat) (hC : isC.map (fun i => ws[i]?) = w0.map some) (hRR : isR.map (fun i => ws[i]?) = wr.map some) (hnC : va_nd isC = true) (hnR : va_nd isR = true) (hdis : ∀ i ∈ isR, i ∉ isC) (hd : decode cc pc = .ok (.invokestatic index, 3)) (kk : ∀ u : S, post u → J E nL g (wr ++ w1 u) lv (cells + rm.cells) (slots + rm.slots) (pc + 3) ((r u).toList ++ rest)) : J E nL g ws lv cells slots pc st0 := by
  refine j_run (as := As) (rm := rm) hg isC isR hC hRR hnR hdis ?_ kk
  intro p l e R s m args below meth c A Q H locs ls hgg hP hD hS hl
  subst hgg
  have hR1 : R = R0 := hg.2.2.2.2.2.2.2.2.1
  have hL1 : l = l0 := hg.2.2.2.2.2.2.2.2.2.2.1
  subst hR1 hL1
  have hts : ∀ w ∈ Ts, w.before args s = true := hg.2.2.2.2.1
  exact va_runS (As := As) (rest := rest) ⟨hg.1, hg.2.1, hg.2.2.1, hg.2.2.2.1, hts⟩ (hM H.size) (cwS n hts hT hw rfl rfl hdd hR) ⟨pcM_blind, pcM_at hg isC hC hnC hP hD hS⟩ rfl hn hl.1 hst (by show 2 * 0 + _ ≤ 8; omega) hd hf
theorem j_callX {index maxL n : Nat} {bytes : ByteArray} {ret : Option FieldType} {Ws' : List Cond} {As rest : List Value} {st0 : List Value} {wr : va_W} (hg : Ok E nL g l0 cc own Ts R0) (hM : MC E l0 y Ws rm (As) w0 S post r w1) (hT : GoodIn Ts (va_wsS own index y Ws)) (hw : Ws = Cond.code y bytes maxL ret :: Ws') (hdd : y.cls ≠ "java/lang/invoke/MethodHandle" ∧ y.cls ≠ "java/lang/invoke/VarHandle" ∧ (parseMethodDescriptor y.desc).map (fun d => d.parameters.length) = some n) (hR : rm.frames + 1 ≤ R0.frames ∧ 8 + (maxL + 11) + rm.locals ≤ R0.locals) (hn : As.length = n) (hst : st0 = As.reverse ++ rest) (hcat : (rest.map fun v => v.category).sum ≤ 8) (hf : cells + rm.cells ≤ R0.cells ∧ slots + rm.slots ≤ R0.slots) (isC isR : List Nat) (hC : isC.map (fun i => ws[i]?) = w0.map some) (hRR : isR.map (fun i => ws[i]?) = wr.map some) (hnC : va_nd isC = true) (hnR : va_nd isR = true) (hdis : ∀ i ∈ isR, i ∉ isC) (hd : decode cc pc = .ok (.invokestatic index, 3)) (kk : ∀ u : S, post u → J E nL g (wr ++ w1 u) lv (cells + rm.cells) (slots + rm.slots) (pc + 3) ((r u).toList ++ rest)) : J E nL g ws lv cells slots pc st0 := by
  refine j_run (as := As) (rm := rm) hg isC isR hC hRR hnR hdis ?_ kk
  intro p l e R s m args below meth c A Q H locs ls hgg hP hD hS hl
  subst hgg
  have hR1 : R = R0 := hg.2.2.2.2.2.2.2.2.1
  have hL1 : l = l0 := hg.2.2.2.2.2.2.2.2.2.2.1
  subst hR1 hL1
  have hts : ∀ w ∈ Ts, w.before args s = true := hg.2.2.2.2.1
  exact va_runS (As := As) (rest := rest) ⟨hg.1, hg.2.1, hg.2.2.1, hg.2.2.2.1, hts⟩ (hM H.size) (va_cwS n hts hT hw rfl rfl hdd hR) ⟨pcM_blind, pcM_at hg isC hC hnC hP hD hS⟩ rfl hn hl.1 hst (by show 2 * 0 + _ ≤ 8; omega) hd hf
theorem j_callI {index maxL n : Nat} {bytes : ByteArray} {ret : Option FieldType} {Ws' : List Cond} {As rest : List Value} {st0 : List Value} {wr : va_W} (hg : Ok E nL g l0 cc own Ts R0) {b : Nat} (hM : MC E l0 y Ws rm (.ref b :: As) w0 S post r w1) (hG : GoodIn Ts Ws) (hw : Ws = Cond.code y bytes maxL none :: Ws') (hini : Cond.initialized y.cls ∈ Ts) (hlk : Cond.methodLink own index y ∈ Ts) (hinm : Cond.instanceMethod y ∈ Ts) (hy1 : y.name = "<init>") (hdd : y.cls ≠ "java/lang/invoke/MethodHandle" ∧ y.cls ≠ "java/lang/invoke/VarHandle" ∧ (parseMethodDescriptor y.desc).map (fun d => d.parameters.length) = some n) (hR : rm.frames + 1 ≤ R0.frames ∧ 8 + (maxL + 11) + rm.locals ≤ R0.locals) (hn : As.length = n) (hst : st0 = As.reverse ++ .ref b :: rest) (hcat : (rest.map fun v => v.category).sum ≤ 8) (hf : cells + rm.cells ≤ R0.cells ∧ slots + rm.slots ≤ R0.slots) (isC isR : List Nat) (hC : isC.map (fun i => ws[i]?) = w0.map some) (hRR : isR.map (fun i => ws[i]?) = wr.map some) (hnC : va_nd isC = true) (hnR : va_nd isR = true) (hdis : ∀ i ∈ isR, i ∉ isC) (hd : decode cc pc = .ok (.invokespecial index, 3)) (kk : ∀ u : S, post u → J E nL g (wr ++ w1 u) lv (cells + rm.cells) (slots + rm.slots) (pc + 3) ((r u).toList ++ rest)) : J E nL g ws lv cells slots pc st0 := by
  refine j_run (as := .ref b :: As) (rm := rm) hg isC isR hC hRR hnR hdis ?_ kk
  intro p l e R s m args below meth c A Q H locs ls hgg hP hD hS hl
  subst hgg
  have hR1 : R = R0 := hg.2.2.2.2.2.2.2.2.1
  have hL1 : l = l0 := hg.2.2.2.2.2.2.2.2.2.2.1
  subst hR1 hL1
  have hts : ∀ w ∈ Ts, w.before args s = true := hg.2.2.2.2.1
  exact va_runI (As := As) (rest := rest) ⟨hg.1, hg.2.1, hg.2.2.1, hg.2.2.2.1, hts⟩ (hM H.size) (cwI n hts hG hw rfl rfl (hts _ hini) (hts _ hlk) (hts _ hinm) hy1 hdd hR) ⟨pcM_blind, pcM_at hg isC hC hnC hP hD hS⟩ rfl hn hl.1 hst (by show 2 * 0 + _ ≤ 8; omega) hd hf
theorem j_callSN {index maxL n : Nat} {bytes : ByteArray} {ret : Option FieldType} {Ws' : List Cond} {As rest : List Value} {st0 : List Value} {wr : va_W} (hg : Ok E nL g l0 cc own Ts R0) (hM : MC E l0 y Ws rm (As) w0 S post r w1) {host : String} (hG : GoodIn Ts Ws) (hw : Ws = Cond.code y bytes maxL ret :: Ws') (hini : Cond.initialized y.cls ∈ Ts) (hlk : (own, index, y, host) ∈ nW) (hsta : Cond.static y ∈ Ts) (hdd : y.cls ≠ "java/lang/invoke/MethodHandle" ∧ y.cls ≠ "java/lang/invoke/VarHandle" ∧ (parseMethodDescriptor y.desc).map (fun d => d.parameters.length) = some n) (hR : rm.frames + 1 ≤ R0.frames ∧ 8 + (maxL + 11) + rm.locals ≤ R0.locals) (hn : As.length = n) (hst : st0 = As.reverse ++ rest) (hcat : (rest.map fun v => v.category).sum ≤ 8) (hf : cells + rm.cells ≤ R0.cells ∧ slots + rm.slots ≤ R0.slots) (isC isR : List Nat) (hC : isC.map (fun i => ws[i]?) = w0.map some) (hRR : isR.map (fun i => ws[i]?) = wr.map some) (hnC : va_nd isC = true) (hnR : va_nd isR = true) (hdis : ∀ i ∈ isR, i ∉ isC) (hd : decode cc pc = .ok (.invokestatic index, 3)) (kk : ∀ u : S, post u → J E nL g (wr ++ w1 u) lv (cells + rm.cells) (slots + rm.slots) (pc + 3) ((r u).toList ++ rest)) : J E nL g ws lv cells slots pc st0 := by
  refine j_run (as := As) (rm := rm) hg isC isR hC hRR hnR hdis ?_ kk
  intro p l e R s m args below meth c A Q H locs ls hgg hP hD hS hl
  subst hgg
  have hR1 : R = R0 := hg.2.2.2.2.2.2.2.2.1
  have hL1 : l = l0 := hg.2.2.2.2.2.2.2.2.2.2.1
  subst hR1 hL1
  have hts : ∀ w ∈ Ts, w.before args s = true := hg.2.2.2.2.1
  exact va_runSN (As := As) (rest := rest) ⟨hg.1, hg.2.1, hg.2.2.1, hg.2.2.2.1, hts⟩ (hM H.size) (⟨va_cnB n hts hG hw rfl rfl (hg.2.2.2.2.2.2.2.2.2.2.2 _ hlk) (hts _ hini) hdd hR, hts _ hsta, trivial⟩) ⟨pcM_blind, pcM_at hg isC hC hnC hP hD hS⟩ rfl hn hl.1 hst (by show 2 * 0 + _ ≤ 8; omega) hd hf
theorem j_callVN {index maxL n : Nat} {bytes : ByteArray} {ret : Option FieldType} {Ws' : List Cond} {As rest : List Value} {st0 : List Value} {wr : va_W} (hg : Ok E nL g l0 cc own Ts R0) {C : String} {T : u_T} {N b ci : Nat} {fs : List Value} (q0 : Nat) (he : w0[q0]? = some (ob b ci fs)) (hc : vwCl[ci]? = some (C, T, N)) (hM : MC E l0 y Ws rm (.ref b :: As) w0 S post r w1) {host : String} (hG : GoodIn Ts Ws) (hw : Ws = Cond.code y bytes maxL ret :: Ws') (hini : Cond.initialized y.cls ∈ Ts) (hlk : (own, index, y, host) ∈ nW) (hinm : Cond.instanceMethod y ∈ Ts) (hsel : Cond.selects C y y ∈ Ts) (hdd : y.cls ≠ "java/lang/invoke/MethodHandle" ∧ y.cls ≠ "java/lang/invoke/VarHandle" ∧ (parseMethodDescriptor y.desc).map (fun d => d.parameters.length) = some n) (hR : rm.frames + 1 ≤ R0.frames ∧ 8 + (maxL + 11) + rm.locals ≤ R0.locals) (hn : As.length = n) (hst : st0 = As.reverse ++ .ref b :: rest) (hcat : (rest.map fun v => v.category).sum ≤ 8) (hf : cells + rm.cells ≤ R0.cells ∧ slots + rm.slots ≤ R0.slots) (isC isR : List Nat) (hC : isC.map (fun i => ws[i]?) = w0.map some) (hRR : isR.map (fun i => ws[i]?) = wr.map some) (hnC : va_nd isC = true) (hnR : va_nd isR = true) (hdis : ∀ i ∈ isR, i ∉ isC) (hd : decode cc pc = .ok (.invokevirtual index, 3)) (kk : ∀ u : S, post u → J E nL g (wr ++ w1 u) lv (cells + rm.cells) (slots + rm.slots) (pc + 3) ((r u).toList ++ rest)) : J E nL g ws lv cells slots pc st0 := by
  refine j_run (as := .ref b :: As) (rm := rm) hg isC isR hC hRR hnR hdis ?_ kk
  intro p l e R s m args below meth c A Q H locs ls hgg hP hD hS hl
  subst hgg
  have hR1 : R = R0 := hg.2.2.2.2.2.2.2.2.1
  have hL1 : l = l0 := hg.2.2.2.2.2.2.2.2.2.2.1
  subst hR1 hL1
  have hts : ∀ w ∈ Ts, w.before args s = true := hg.2.2.2.2.1
  exact va_runVN (As := As) (rest := rest) ⟨hg.1, hg.2.1, hg.2.2.1, hg.2.2.2.1, hts⟩ (hM H.size) (⟨va_cnB n hts hG hw rfl rfl (hg.2.2.2.2.2.2.2.2.2.2.2 _ hlk) (hts _ hini) hdd hR, hts _ hinm, hts _ hsel⟩) ⟨pcM_blind, va_recv hg.2.2.2.2.2.1 (hP.sub isC (fm_of_map hC)) hc he, pcM_at hg isC hC hnC hP hD hS⟩ rfl hn hl.1 hst (by show 2 * 0 + _ ≤ 8; omega) hd hf
theorem j_callIN {index maxL n : Nat} {bytes : ByteArray} {ret : Option FieldType} {Ws' : List Cond} {As rest : List Value} {st0 : List Value} {wr : va_W} (hg : Ok E nL g l0 cc own Ts R0) {b : Nat} (hM : MC E l0 y Ws rm (.ref b :: As) w0 S post r w1) {host : String} (hG : GoodIn Ts Ws) (hw : Ws = Cond.code y bytes maxL none :: Ws') (hini : Cond.initialized y.cls ∈ Ts) (hlk : (own, index, y, host) ∈ nW) (hy1 : y.name = "<init>") (hinm : Cond.instanceMethod y ∈ Ts) (hdd : y.cls ≠ "java/lang/invoke/MethodHandle" ∧ y.cls ≠ "java/lang/invoke/VarHandle" ∧ (parseMethodDescriptor y.desc).map (fun d => d.parameters.length) = some n) (hR : rm.frames + 1 ≤ R0.frames ∧ 8 + (maxL + 11) + rm.locals ≤ R0.locals) (hn : As.length = n) (hst : st0 = As.reverse ++ .ref b :: rest) (hcat : (rest.map fun v => v.category).sum ≤ 8) (hf : cells + rm.cells ≤ R0.cells ∧ slots + rm.slots ≤ R0.slots) (isC isR : List Nat) (hC : isC.map (fun i => ws[i]?) = w0.map some) (hRR : isR.map (fun i => ws[i]?) = wr.map some) (hnC : va_nd isC = true) (hnR : va_nd isR = true) (hdis : ∀ i ∈ isR, i ∉ isC) (hd : decode cc pc = .ok (.invokespecial index, 3)) (kk : ∀ u : S, post u → J E nL g (wr ++ w1 u) lv (cells + rm.cells) (slots + rm.slots) (pc + 3) ((r u).toList ++ rest)) : J E nL g ws lv cells slots pc st0 := by
  refine j_run (as := .ref b :: As) (rm := rm) hg isC isR hC hRR hnR hdis ?_ kk
  intro p l e R s m args below meth c A Q H locs ls hgg hP hD hS hl
  subst hgg
  have hR1 : R = R0 := hg.2.2.2.2.2.2.2.2.1
  have hL1 : l = l0 := hg.2.2.2.2.2.2.2.2.2.2.1
  subst hR1 hL1
  have hts : ∀ w ∈ Ts, w.before args s = true := hg.2.2.2.2.1
  exact va_runIN (As := As) (rest := rest) ⟨hg.1, hg.2.1, hg.2.2.1, hg.2.2.2.1, hts⟩ (hM H.size) (⟨va_cnB n hts hG hw rfl rfl (hg.2.2.2.2.2.2.2.2.2.2.2 _ hlk) (hts _ hini) hdd hR, hy1, hts _ hinm⟩) ⟨pcM_blind, pcM_at hg isC hC hnC hP hD hS⟩ rfl hn hl.1 hst (by show 2 * 0 + _ ≤ 8; omega) hd hf
end CALL
end JR
end
section
/-! What the class's methods do to rows and numbers, as functions. -/
def shl (x y : Int32) : Int32 := x <<< (y &&& 31)
def shr (x y : Int32) : Int32 := x >>> (y &&& 31)
def ushr (x y : Int32) : Int32 := (x.toUInt32 >>> (y.toUInt32 &&& Int32.toUInt32 31)).toInt32
def lshl (x : Int64) (y : Int32) : Int64 := x <<< (y.toInt64 &&& 63)
def lshr (x : Int64) (y : Int32) : Int64 := x >>> (y.toInt64 &&& 63)
def lushr (x : Int64) (y : Int32) : Int64 := (x.toUInt64 >>> (y.toInt64.toUInt64 &&& Int64.toUInt64 63)).toInt64
def sB (x : Int32) : Int32 := x.toInt8.toInt32
def sC (x : Int32) : Int32 := (x.toUInt32 % 65536).toInt32
theorem sB_nar (x : Int32) : vp_nar .byte (sB x) = sB x := pk_vb x
theorem sB_fit (x : Int32) : fits .byte (.int (sB x)) = true := pk_fb x
theorem nI_dec (a k : Nat) (h : k ≤ a) : nI a + Int32.ofInt (-(k : Int)) = nI (a - k) := by
  rw [← pk_sub h, Int32.sub_eq_add_neg]
  congr 1
  show Int32.ofInt (-(k : Int)) = -Int32.ofNat k
  rw [Int32.ofInt_neg]
  rfl
/-- a row's bytes: each is a byte's number -/
def Byt (f : Nat → Int32) : Prop := ∀ j, fits .byte (.int (f j)) = true
theorem Byt.up {f : Nat → Int32} {k : Nat} {x : Int32} (h : Byt f) (hx : fits .byte (.int x) = true) : Byt (upd f k x) := by
  intro j
  unfold upd
  split
  · exact hx
  · exact h j
theorem Byt.cpy {f h : Nat → Int32} {i j k : Nat} (hf : Byt f) (hh : Byt h) : Byt (va_cpy f h i j k) := by
  intro t
  unfold va_cpy
  split
  · exact hf _
  · exact hh _
theorem Byt.zero : Byt (fun _ => 0) := fun _ => rfl
-- bytes to and from words
def wh (f : Nat → Int32) (k : Nat) (v : Int32) : Nat → Int32 := upd (upd (upd (upd f k (sB (ushr v 24))) (k + 1) (sB (ushr v 16))) (k + 2) (sB (ushr v 8))) (k + 3) (sB v)
def wl (f : Nat → Int32) (k : Nat) (v : Int32) : Nat → Int32 := upd (upd (upd (upd f k (sB v)) (k + 1) (sB (ushr v 8))) (k + 2) (sB (ushr v 16))) (k + 3) (sB (ushr v 24))
def rh (f : Nat → Int32) (k : Nat) : Int32 := shl (f k &&& 255) 24 ||| shl (f (k + 1) &&& 255) 16 ||| shl (f (k + 2) &&& 255) 8 ||| (f (k + 3) &&& 255)
def rl (f : Nat → Int32) (k : Nat) : Int32 := (f k &&& 255) ||| shl (f (k + 1) &&& 255) 8 ||| shl (f (k + 2) &&& 255) 16 ||| shl (f (k + 3) &&& 255) 24
def tl (v b : Int32) : Int32 := shl v b ||| ushr v (32 - b)
def tr (v b : Int32) : Int32 := ushr v b ||| shl v (32 - b)
theorem Byt.wh {f : Nat → Int32} {k : Nat} {v : Int32} (h : Byt f) : Byt (wh f k v) := (((h.up (sB_fit _)).up (sB_fit _)).up (sB_fit _)).up (sB_fit _)
theorem Byt.wl {f : Nat → Int32} {k : Nat} {v : Int32} (h : Byt f) : Byt (wl f k v) := (((h.up (sB_fit _)).up (sB_fit _)).up (sB_fit _)).up (sB_fit _)
-- ChaCha20
def qa (f : Nat → Int32) (a b : Nat) : Nat → Int32 := upd f a (f a + f b)
def qx (f : Nat → Int32) (d a : Nat) (r : Int32) : Nat → Int32 := upd f d (tl (f d ^^^ f a) r)
def qr (f : Nat → Int32) (a b c d : Nat) : Nat → Int32 := qx (qa (qx (qa (qx (qa (qx (qa f a b) d a 16) c d) b c 12) a b) d a 8) c d) b c 7
def qcol (f : Nat → Int32) : Nat → Int32 := qr (qr (qr (qr f 0 4 8 12) 1 5 9 13) 2 6 10 14) 3 7 11 15
def qdia (f : Nat → Int32) : Nat → Int32 := qr (qr (qr (qr f 0 5 10 15) 1 6 11 12) 2 7 8 13) 3 4 9 14
def qrounds (f : Nat → Int32) : Nat → Nat → Int32
  | 0 => f
  | n + 1 => qdia (qcol (qrounds f n))
def lay0 (f : Nat → Int32) : Nat → Int32 := upd (upd (upd (upd f 0 1634760805) 1 857760878) 2 2036477234) 3 1797285236
def layk (key f : Nat → Int32) : Nat → Nat → Int32
  | 0 => f
  | i + 1 => upd (layk key f i) (4 + i) (rl key (4 * i))
def layn (non f : Nat → Int32) : Nat → Nat → Int32
  | 0 => f
  | i + 1 => upd (layn non f i) (13 + i) (rl non (4 * i))
def layF (f key non : Nat → Int32) (ctr : Int32) : Nat → Int32 := layn non (upd (layk key (lay0 f) 8) 12 ctr) 3
def outF (row mixed first : Nat → Int32) : Nat → Nat → Int32
  | 0 => row
  | i + 1 => wl (outF row mixed first i) (4 * i) (mixed i + first i)
def mixF (f m fk fn : Nat → Int32) (ctr : Int32) : Nat → Int32 := qrounds (va_cpy (layF f fk fn ctr) m 0 0 16) 10
def fillF (row f m fk fn : Nat → Int32) (ctr : Int32) : Nat → Int32 := outF row (mixF f m fk fn ctr) (layF f fk fn ctr) 16
end
section
theorem dS_init_0 : decode cS_init 0 = .ok (.aload_n 0, 1) := by decide +kernel
theorem dS_init_1 : decode cS_init 1 = .ok (.invokespecial 1, 3) := by decide +kernel
theorem dS_init_4 : decode cS_init 4 = .ok (.aload_n 0, 1) := by decide +kernel
theorem dS_init_5 : decode cS_init 5 = .ok (.sipush 800, 3) := by decide +kernel
theorem dS_init_8 : decode cS_init 8 = .ok (.newarray .byte, 2) := by decide +kernel
theorem dS_init_10 : decode cS_init 10 = .ok (.putfield 9, 3) := by decide +kernel
theorem dS_init_13 : decode cS_init 13 = .ok (.aload_n 0, 1) := by decide +kernel
theorem dS_init_14 : decode cS_init 14 = .ok (.iconst 0, 1) := by decide +kernel
theorem dS_init_15 : decode cS_init 15 = .ok (.putfield 13, 3) := by decide +kernel
theorem dS_init_18 : decode cS_init 18 = .ok (.aload_n 0, 1) := by decide +kernel
theorem dS_init_19 : decode cS_init 19 = .ok (.sipush 816, 3) := by decide +kernel
theorem dS_init_22 : decode cS_init 22 = .ok (.newarray .byte, 2) := by decide +kernel
theorem dS_init_24 : decode cS_init 24 = .ok (.putfield 17, 3) := by decide +kernel
theorem dS_init_27 : decode cS_init 27 = .ok (.aload_n 0, 1) := by decide +kernel
theorem dS_init_28 : decode cS_init 28 = .ok (.iconst 0, 1) := by decide +kernel
theorem dS_init_29 : decode cS_init 29 = .ok (.putfield 20, 3) := by decide +kernel
theorem dS_init_32 : decode cS_init 32 = .ok (.aload_n 0, 1) := by decide +kernel
theorem dS_init_33 : decode cS_init 33 = .ok (.bipush 32, 2) := by decide +kernel
theorem dS_init_35 : decode cS_init 35 = .ok (.newarray .byte, 2) := by decide +kernel
theorem dS_init_37 : decode cS_init 37 = .ok (.putfield 23, 3) := by decide +kernel
theorem dS_init_40 : decode cS_init 40 = .ok (.aload_n 0, 1) := by decide +kernel
theorem dS_init_41 : decode cS_init 41 = .ok (.bipush 12, 2) := by decide +kernel
theorem dS_init_43 : decode cS_init 43 = .ok (.newarray .byte, 2) := by decide +kernel
theorem dS_init_45 : decode cS_init 45 = .ok (.putfield 26, 3) := by decide +kernel
theorem dS_init_48 : decode cS_init 48 = .ok (.aload_n 0, 1) := by decide +kernel
theorem dS_init_49 : decode cS_init 49 = .ok (.bipush 64, 2) := by decide +kernel
theorem dS_init_51 : decode cS_init 51 = .ok (.newarray .byte, 2) := by decide +kernel
theorem dS_init_53 : decode cS_init 53 = .ok (.putfield 29, 3) := by decide +kernel
theorem dS_init_56 : decode cS_init 56 = .ok (.aload_n 0, 1) := by decide +kernel
theorem dS_init_57 : decode cS_init 57 = .ok (.bipush 16, 2) := by decide +kernel
theorem dS_init_59 : decode cS_init 59 = .ok (.newarray .byte, 2) := by decide +kernel
theorem dS_init_61 : decode cS_init 61 = .ok (.putfield 32, 3) := by decide +kernel
theorem dS_init_64 : decode cS_init 64 = .ok (.aload_n 0, 1) := by decide +kernel
theorem dS_init_65 : decode cS_init 65 = .ok (.bipush 16, 2) := by decide +kernel
theorem dS_init_67 : decode cS_init 67 = .ok (.newarray .byte, 2) := by decide +kernel
theorem dS_init_69 : decode cS_init 69 = .ok (.putfield 35, 3) := by decide +kernel
theorem dS_init_72 : decode cS_init 72 = .ok (.aload_n 0, 1) := by decide +kernel
theorem dS_init_73 : decode cS_init 73 = .ok (.new 38, 3) := by decide +kernel
theorem dS_init_76 : decode cS_init 76 = .ok (.dup, 1) := by decide +kernel
theorem dS_init_77 : decode cS_init 77 = .ok (.invokespecial 40, 3) := by decide +kernel
theorem dS_init_80 : decode cS_init 80 = .ok (.putfield 41, 3) := by decide +kernel
theorem dS_init_83 : decode cS_init 83 = .ok (.aload_n 0, 1) := by decide +kernel
theorem dS_init_84 : decode cS_init 84 = .ok (.new 45, 3) := by decide +kernel
theorem dS_init_87 : decode cS_init 87 = .ok (.dup, 1) := by decide +kernel
theorem dS_init_88 : decode cS_init 88 = .ok (.invokespecial 47, 3) := by decide +kernel
theorem dS_init_91 : decode cS_init 91 = .ok (.putfield 48, 3) := by decide +kernel
theorem dS_init_94 : decode cS_init 94 = .ok (.aload_n 0, 1) := by decide +kernel
theorem dS_init_95 : decode cS_init 95 = .ok (.new 52, 3) := by decide +kernel
theorem dS_init_98 : decode cS_init 98 = .ok (.dup, 1) := by decide +kernel
theorem dS_init_99 : decode cS_init 99 = .ok (.invokespecial 54, 3) := by decide +kernel
theorem dS_init_102 : decode cS_init 102 = .ok (.putfield 55, 3) := by decide +kernel
theorem dS_init_105 : decode cS_init 105 = .ok (.return_, 1) := by decide +kernel
theorem dS_feed_0 : decode cS_feed 0 = .ok (.aload_n 0, 1) := by decide +kernel
theorem dS_feed_1 : decode cS_feed 1 = .ok (.getfield 13, 3) := by decide +kernel
theorem dS_feed_4 : decode cS_feed 4 = .ok (.sipush 780, 3) := by decide +kernel
theorem dS_feed_7 : decode cS_feed 7 = .ok (.if_icmp .le 6, 3) := by decide +kernel
theorem dS_feed_10 : decode cS_feed 10 = .ok (.bipush (-3), 2) := by decide +kernel
theorem dS_feed_12 : decode cS_feed 12 = .ok (.ireturn, 1) := by decide +kernel
theorem dS_feed_13 : decode cS_feed 13 = .ok (.aload_n 0, 1) := by decide +kernel
theorem dS_feed_14 : decode cS_feed 14 = .ok (.getfield 9, 3) := by decide +kernel
theorem dS_feed_17 : decode cS_feed 17 = .ok (.aload_n 0, 1) := by decide +kernel
theorem dS_feed_18 : decode cS_feed 18 = .ok (.getfield 13, 3) := by decide +kernel
theorem dS_feed_21 : decode cS_feed 21 = .ok (.iload_n 1, 1) := by decide +kernel
theorem dS_feed_22 : decode cS_feed 22 = .ok (.invokestatic 59, 3) := by decide +kernel
theorem dS_feed_25 : decode cS_feed 25 = .ok (.aload_n 0, 1) := by decide +kernel
theorem dS_feed_26 : decode cS_feed 26 = .ok (.getfield 9, 3) := by decide +kernel
theorem dS_feed_29 : decode cS_feed 29 = .ok (.aload_n 0, 1) := by decide +kernel
theorem dS_feed_30 : decode cS_feed 30 = .ok (.getfield 13, 3) := by decide +kernel
theorem dS_feed_33 : decode cS_feed 33 = .ok (.iconst 4, 1) := by decide +kernel
theorem dS_feed_34 : decode cS_feed 34 = .ok (.iadd, 1) := by decide +kernel
theorem dS_feed_35 : decode cS_feed 35 = .ok (.iload_n 2, 1) := by decide +kernel
theorem dS_feed_36 : decode cS_feed 36 = .ok (.invokestatic 59, 3) := by decide +kernel
theorem dS_feed_39 : decode cS_feed 39 = .ok (.aload_n 0, 1) := by decide +kernel
theorem dS_feed_40 : decode cS_feed 40 = .ok (.getfield 9, 3) := by decide +kernel
theorem dS_feed_43 : decode cS_feed 43 = .ok (.aload_n 0, 1) := by decide +kernel
theorem dS_feed_44 : decode cS_feed 44 = .ok (.getfield 13, 3) := by decide +kernel
theorem dS_feed_47 : decode cS_feed 47 = .ok (.bipush 8, 2) := by decide +kernel
theorem dS_feed_49 : decode cS_feed 49 = .ok (.iadd, 1) := by decide +kernel
theorem dS_feed_50 : decode cS_feed 50 = .ok (.iload_n 3, 1) := by decide +kernel
theorem dS_feed_51 : decode cS_feed 51 = .ok (.invokestatic 59, 3) := by decide +kernel
theorem dS_feed_54 : decode cS_feed 54 = .ok (.aload_n 0, 1) := by decide +kernel
theorem dS_feed_55 : decode cS_feed 55 = .ok (.getfield 9, 3) := by decide +kernel
theorem dS_feed_58 : decode cS_feed 58 = .ok (.aload_n 0, 1) := by decide +kernel
theorem dS_feed_59 : decode cS_feed 59 = .ok (.getfield 13, 3) := by decide +kernel
theorem dS_feed_62 : decode cS_feed 62 = .ok (.bipush 12, 2) := by decide +kernel
theorem dS_feed_64 : decode cS_feed 64 = .ok (.iadd, 1) := by decide +kernel
theorem dS_feed_65 : decode cS_feed 65 = .ok (.iload 4, 2) := by decide +kernel
theorem dS_feed_67 : decode cS_feed 67 = .ok (.invokestatic 59, 3) := by decide +kernel
theorem dS_feed_70 : decode cS_feed 70 = .ok (.aload_n 0, 1) := by decide +kernel
theorem dS_feed_71 : decode cS_feed 71 = .ok (.getfield 9, 3) := by decide +kernel
theorem dS_feed_74 : decode cS_feed 74 = .ok (.aload_n 0, 1) := by decide +kernel
theorem dS_feed_75 : decode cS_feed 75 = .ok (.getfield 13, 3) := by decide +kernel
theorem dS_feed_78 : decode cS_feed 78 = .ok (.bipush 16, 2) := by decide +kernel
theorem dS_feed_80 : decode cS_feed 80 = .ok (.iadd, 1) := by decide +kernel
theorem dS_feed_81 : decode cS_feed 81 = .ok (.iload 5, 2) := by decide +kernel
theorem dS_feed_83 : decode cS_feed 83 = .ok (.invokestatic 59, 3) := by decide +kernel
theorem dS_feed_86 : decode cS_feed 86 = .ok (.aload_n 0, 1) := by decide +kernel
theorem dS_feed_87 : decode cS_feed 87 = .ok (.dup, 1) := by decide +kernel
theorem dS_feed_88 : decode cS_feed 88 = .ok (.getfield 13, 3) := by decide +kernel
theorem dS_feed_91 : decode cS_feed 91 = .ok (.bipush 20, 2) := by decide +kernel
theorem dS_feed_93 : decode cS_feed 93 = .ok (.iadd, 1) := by decide +kernel
theorem dS_feed_94 : decode cS_feed 94 = .ok (.putfield 13, 3) := by decide +kernel
theorem dS_feed_97 : decode cS_feed 97 = .ok (.aload_n 0, 1) := by decide +kernel
theorem dS_feed_98 : decode cS_feed 98 = .ok (.getfield 13, 3) := by decide +kernel
theorem dS_feed_101 : decode cS_feed 101 = .ok (.ireturn, 1) := by decide +kernel
theorem dS_end_0 : decode cS_end 0 = .ok (.aload_n 0, 1) := by decide +kernel
theorem dS_end_1 : decode cS_end 1 = .ok (.iload_n 1, 1) := by decide +kernel
theorem dS_end_2 : decode cS_end 2 = .ok (.invokevirtual 63, 3) := by decide +kernel
theorem dS_end_5 : decode cS_end 5 = .ok (.ifCond .ne 5, 3) := by decide +kernel
theorem dS_end_8 : decode cS_end 8 = .ok (.iconst (-1), 1) := by decide +kernel
theorem dS_end_9 : decode cS_end 9 = .ok (.ireturn, 1) := by decide +kernel
theorem dS_end_10 : decode cS_end 10 = .ok (.aload_n 0, 1) := by decide +kernel
theorem dS_end_11 : decode cS_end 11 = .ok (.iload_n 1, 1) := by decide +kernel
theorem dS_end_12 : decode cS_end 12 = .ok (.putfield 13, 3) := by decide +kernel
theorem dS_end_15 : decode cS_end 15 = .ok (.iload_n 1, 1) := by decide +kernel
theorem dS_end_16 : decode cS_end 16 = .ok (.ireturn, 1) := by decide +kernel
theorem dS_take_0 : decode cS_take 0 = .ok (.aload_n 0, 1) := by decide +kernel
theorem dS_take_1 : decode cS_take 1 = .ok (.iload_n 1, 1) := by decide +kernel
theorem dS_take_2 : decode cS_take 2 = .ok (.invokevirtual 63, 3) := by decide +kernel
theorem dS_take_5 : decode cS_take 5 = .ok (.ifCond .ne 5, 3) := by decide +kernel
theorem dS_take_8 : decode cS_take 8 = .ok (.iconst (-1), 1) := by decide +kernel
theorem dS_take_9 : decode cS_take 9 = .ok (.ireturn, 1) := by decide +kernel
theorem dS_take_10 : decode cS_take 10 = .ok (.iload_n 1, 1) := by decide +kernel
theorem dS_take_11 : decode cS_take 11 = .ok (.aload_n 0, 1) := by decide +kernel
theorem dS_take_12 : decode cS_take 12 = .ok (.getfield 20, 3) := by decide +kernel
theorem dS_take_15 : decode cS_take 15 = .ok (.iadd, 1) := by decide +kernel
theorem dS_take_16 : decode cS_take 16 = .ok (.sipush 800, 3) := by decide +kernel
theorem dS_take_19 : decode cS_take 19 = .ok (.if_icmp .le 6, 3) := by decide +kernel
theorem dS_take_22 : decode cS_take 22 = .ok (.bipush (-3), 2) := by decide +kernel
theorem dS_take_24 : decode cS_take 24 = .ok (.ireturn, 1) := by decide +kernel
theorem dS_take_25 : decode cS_take 25 = .ok (.aload_n 0, 1) := by decide +kernel
theorem dS_take_26 : decode cS_take 26 = .ok (.getfield 17, 3) := by decide +kernel
theorem dS_take_29 : decode cS_take 29 = .ok (.iconst 0, 1) := by decide +kernel
theorem dS_take_30 : decode cS_take 30 = .ok (.aload_n 0, 1) := by decide +kernel
theorem dS_take_31 : decode cS_take 31 = .ok (.getfield 9, 3) := by decide +kernel
theorem dS_take_34 : decode cS_take 34 = .ok (.iload_n 1, 1) := by decide +kernel
theorem dS_take_35 : decode cS_take 35 = .ok (.aload_n 0, 1) := by decide +kernel
theorem dS_take_36 : decode cS_take 36 = .ok (.getfield 20, 3) := by decide +kernel
theorem dS_take_39 : decode cS_take 39 = .ok (.invokestatic 67, 3) := by decide +kernel
theorem dS_take_42 : decode cS_take 42 = .ok (.aload_n 0, 1) := by decide +kernel
theorem dS_take_43 : decode cS_take 43 = .ok (.iload_n 1, 1) := by decide +kernel
theorem dS_take_44 : decode cS_take 44 = .ok (.aload_n 0, 1) := by decide +kernel
theorem dS_take_45 : decode cS_take 45 = .ok (.getfield 20, 3) := by decide +kernel
theorem dS_take_48 : decode cS_take 48 = .ok (.iadd, 1) := by decide +kernel
theorem dS_take_49 : decode cS_take 49 = .ok (.putfield 13, 3) := by decide +kernel
theorem dS_take_52 : decode cS_take 52 = .ok (.aload_n 0, 1) := by decide +kernel
theorem dS_take_53 : decode cS_take 53 = .ok (.getfield 13, 3) := by decide +kernel
theorem dS_take_56 : decode cS_take 56 = .ok (.ireturn, 1) := by decide +kernel
theorem dS_key_0 : decode cS_key 0 = .ok (.aload_n 0, 1) := by decide +kernel
theorem dS_key_1 : decode cS_key 1 = .ok (.getfield 13, 3) := by decide +kernel
theorem dS_key_4 : decode cS_key 4 = .ok (.bipush 32, 2) := by decide +kernel
theorem dS_key_6 : decode cS_key 6 = .ok (.if_icmp .ne 7, 3) := by decide +kernel
theorem dS_key_9 : decode cS_key 9 = .ok (.iconst 1, 1) := by decide +kernel
theorem dS_key_10 : decode cS_key 10 = .ok (.goto 4, 3) := by decide +kernel
theorem dS_key_13 : decode cS_key 13 = .ok (.iconst 0, 1) := by decide +kernel
theorem dS_key_14 : decode cS_key 14 = .ok (.istore_n 1, 1) := by decide +kernel
theorem dS_key_15 : decode cS_key 15 = .ok (.iload_n 1, 1) := by decide +kernel
theorem dS_key_16 : decode cS_key 16 = .ok (.ifCond .eq 18, 3) := by decide +kernel
theorem dS_key_19 : decode cS_key 19 = .ok (.aload_n 0, 1) := by decide +kernel
theorem dS_key_20 : decode cS_key 20 = .ok (.getfield 9, 3) := by decide +kernel
theorem dS_key_23 : decode cS_key 23 = .ok (.iconst 0, 1) := by decide +kernel
theorem dS_key_24 : decode cS_key 24 = .ok (.aload_n 0, 1) := by decide +kernel
theorem dS_key_25 : decode cS_key 25 = .ok (.getfield 23, 3) := by decide +kernel
theorem dS_key_28 : decode cS_key 28 = .ok (.iconst 0, 1) := by decide +kernel
theorem dS_key_29 : decode cS_key 29 = .ok (.bipush 32, 2) := by decide +kernel
theorem dS_key_31 : decode cS_key 31 = .ok (.invokestatic 67, 3) := by decide +kernel
theorem dS_key_34 : decode cS_key 34 = .ok (.aload_n 0, 1) := by decide +kernel
theorem dS_key_35 : decode cS_key 35 = .ok (.iconst 0, 1) := by decide +kernel
theorem dS_key_36 : decode cS_key 36 = .ok (.putfield 13, 3) := by decide +kernel
theorem dS_key_39 : decode cS_key 39 = .ok (.iload_n 1, 1) := by decide +kernel
theorem dS_key_40 : decode cS_key 40 = .ok (.ifCond .eq 7, 3) := by decide +kernel
theorem dS_key_43 : decode cS_key 43 = .ok (.iconst 0, 1) := by decide +kernel
theorem dS_key_44 : decode cS_key 44 = .ok (.goto 4, 3) := by decide +kernel
theorem dS_key_47 : decode cS_key 47 = .ok (.iconst (-1), 1) := by decide +kernel
theorem dS_key_48 : decode cS_key 48 = .ok (.ireturn, 1) := by decide +kernel
theorem dS_nonce_0 : decode cS_nonce 0 = .ok (.aload_n 0, 1) := by decide +kernel
theorem dS_nonce_1 : decode cS_nonce 1 = .ok (.getfield 26, 3) := by decide +kernel
theorem dS_nonce_4 : decode cS_nonce 4 = .ok (.iconst 0, 1) := by decide +kernel
theorem dS_nonce_5 : decode cS_nonce 5 = .ok (.iload_n 1, 1) := by decide +kernel
theorem dS_nonce_6 : decode cS_nonce 6 = .ok (.invokestatic 59, 3) := by decide +kernel
theorem dS_nonce_9 : decode cS_nonce 9 = .ok (.aload_n 0, 1) := by decide +kernel
theorem dS_nonce_10 : decode cS_nonce 10 = .ok (.getfield 26, 3) := by decide +kernel
theorem dS_nonce_13 : decode cS_nonce 13 = .ok (.iconst 4, 1) := by decide +kernel
theorem dS_nonce_14 : decode cS_nonce 14 = .ok (.lload_n 2, 1) := by decide +kernel
theorem dS_nonce_15 : decode cS_nonce 15 = .ok (.bipush 32, 2) := by decide +kernel
theorem dS_nonce_17 : decode cS_nonce 17 = .ok (.lushr, 1) := by decide +kernel
theorem dS_nonce_18 : decode cS_nonce 18 = .ok (.l2i, 1) := by decide +kernel
theorem dS_nonce_19 : decode cS_nonce 19 = .ok (.invokestatic 59, 3) := by decide +kernel
theorem dS_nonce_22 : decode cS_nonce 22 = .ok (.aload_n 0, 1) := by decide +kernel
theorem dS_nonce_23 : decode cS_nonce 23 = .ok (.getfield 26, 3) := by decide +kernel
theorem dS_nonce_26 : decode cS_nonce 26 = .ok (.bipush 8, 2) := by decide +kernel
theorem dS_nonce_28 : decode cS_nonce 28 = .ok (.lload_n 2, 1) := by decide +kernel
theorem dS_nonce_29 : decode cS_nonce 29 = .ok (.l2i, 1) := by decide +kernel
theorem dS_nonce_30 : decode cS_nonce 30 = .ok (.invokestatic 59, 3) := by decide +kernel
theorem dS_nonce_33 : decode cS_nonce 33 = .ok (.return_, 1) := by decide +kernel
theorem dS_stream_0 : decode cS_stream 0 = .ok (.aload_n 0, 1) := by decide +kernel
theorem dS_stream_1 : decode cS_stream 1 = .ok (.getfield 41, 3) := by decide +kernel
theorem dS_stream_4 : decode cS_stream 4 = .ok (.aload_n 0, 1) := by decide +kernel
theorem dS_stream_5 : decode cS_stream 5 = .ok (.getfield 17, 3) := by decide +kernel
theorem dS_stream_8 : decode cS_stream 8 = .ok (.aload_n 0, 1) := by decide +kernel
theorem dS_stream_9 : decode cS_stream 9 = .ok (.getfield 23, 3) := by decide +kernel
theorem dS_stream_12 : decode cS_stream 12 = .ok (.aload_n 0, 1) := by decide +kernel
theorem dS_stream_13 : decode cS_stream 13 = .ok (.getfield 26, 3) := by decide +kernel
theorem dS_stream_16 : decode cS_stream 16 = .ok (.iload_n 1, 1) := by decide +kernel
theorem dS_stream_17 : decode cS_stream 17 = .ok (.invokevirtual 73, 3) := by decide +kernel
theorem dS_stream_20 : decode cS_stream 20 = .ok (.aload_n 0, 1) := by decide +kernel
theorem dS_stream_21 : decode cS_stream 21 = .ok (.bipush 64, 2) := by decide +kernel
theorem dS_stream_23 : decode cS_stream 23 = .ok (.putfield 20, 3) := by decide +kernel
theorem dS_stream_26 : decode cS_stream 26 = .ok (.aload_n 0, 1) := by decide +kernel
theorem dS_stream_27 : decode cS_stream 27 = .ok (.getfield 20, 3) := by decide +kernel
theorem dS_stream_30 : decode cS_stream 30 = .ok (.ireturn, 1) := by decide +kernel
theorem dS_sum_0 : decode cS_sum 0 = .ok (.aload_n 0, 1) := by decide +kernel
theorem dS_sum_1 : decode cS_sum 1 = .ok (.getfield 48, 3) := by decide +kernel
theorem dS_sum_4 : decode cS_sum 4 = .ok (.aload_n 0, 1) := by decide +kernel
theorem dS_sum_5 : decode cS_sum 5 = .ok (.getfield 23, 3) := by decide +kernel
theorem dS_sum_8 : decode cS_sum 8 = .ok (.invokevirtual 77, 3) := by decide +kernel
theorem dS_sum_11 : decode cS_sum 11 = .ok (.aload_n 0, 1) := by decide +kernel
theorem dS_sum_12 : decode cS_sum 12 = .ok (.getfield 48, 3) := by decide +kernel
theorem dS_sum_15 : decode cS_sum 15 = .ok (.aload_n 0, 1) := by decide +kernel
theorem dS_sum_16 : decode cS_sum 16 = .ok (.getfield 9, 3) := by decide +kernel
theorem dS_sum_19 : decode cS_sum 19 = .ok (.iconst 0, 1) := by decide +kernel
theorem dS_sum_20 : decode cS_sum 20 = .ok (.aload_n 0, 1) := by decide +kernel
theorem dS_sum_21 : decode cS_sum 21 = .ok (.getfield 13, 3) := by decide +kernel
theorem dS_sum_24 : decode cS_sum 24 = .ok (.invokevirtual 81, 3) := by decide +kernel
theorem dS_sum_27 : decode cS_sum 27 = .ok (.aload_n 0, 1) := by decide +kernel
theorem dS_sum_28 : decode cS_sum 28 = .ok (.getfield 48, 3) := by decide +kernel
theorem dS_sum_31 : decode cS_sum 31 = .ok (.aload_n 0, 1) := by decide +kernel
theorem dS_sum_32 : decode cS_sum 32 = .ok (.getfield 17, 3) := by decide +kernel
theorem dS_sum_35 : decode cS_sum 35 = .ok (.iconst 0, 1) := by decide +kernel
theorem dS_sum_36 : decode cS_sum 36 = .ok (.invokevirtual 84, 3) := by decide +kernel
theorem dS_sum_39 : decode cS_sum 39 = .ok (.aload_n 0, 1) := by decide +kernel
theorem dS_sum_40 : decode cS_sum 40 = .ok (.bipush 16, 2) := by decide +kernel
theorem dS_sum_42 : decode cS_sum 42 = .ok (.putfield 20, 3) := by decide +kernel
theorem dS_sum_45 : decode cS_sum 45 = .ok (.aload_n 0, 1) := by decide +kernel
theorem dS_sum_46 : decode cS_sum 46 = .ok (.iconst 0, 1) := by decide +kernel
theorem dS_sum_47 : decode cS_sum 47 = .ok (.putfield 13, 3) := by decide +kernel
theorem dS_sum_50 : decode cS_sum 50 = .ok (.aload_n 0, 1) := by decide +kernel
theorem dS_sum_51 : decode cS_sum 51 = .ok (.getfield 20, 3) := by decide +kernel
theorem dS_sum_54 : decode cS_sum 54 = .ok (.ireturn, 1) := by decide +kernel
theorem dS_seal_0 : decode cS_seal 0 = .ok (.aload_n 0, 1) := by decide +kernel
theorem dS_seal_1 : decode cS_seal 1 = .ok (.iload_n 1, 1) := by decide +kernel
theorem dS_seal_2 : decode cS_seal 2 = .ok (.invokevirtual 63, 3) := by decide +kernel
theorem dS_seal_5 : decode cS_seal 5 = .ok (.ifCond .ne 5, 3) := by decide +kernel
theorem dS_seal_8 : decode cS_seal 8 = .ok (.iconst (-1), 1) := by decide +kernel
theorem dS_seal_9 : decode cS_seal 9 = .ok (.ireturn, 1) := by decide +kernel
theorem dS_seal_10 : decode cS_seal 10 = .ok (.aload_n 0, 1) := by decide +kernel
theorem dS_seal_11 : decode cS_seal 11 = .ok (.getfield 13, 3) := by decide +kernel
theorem dS_seal_14 : decode cS_seal 14 = .ok (.iload_n 1, 1) := by decide +kernel
theorem dS_seal_15 : decode cS_seal 15 = .ok (.isub, 1) := by decide +kernel
theorem dS_seal_16 : decode cS_seal 16 = .ok (.istore_n 2, 1) := by decide +kernel
theorem dS_seal_17 : decode cS_seal 17 = .ok (.aload_n 0, 1) := by decide +kernel
theorem dS_seal_18 : decode cS_seal 18 = .ok (.iload_n 1, 1) := by decide +kernel
theorem dS_seal_19 : decode cS_seal 19 = .ok (.iload_n 2, 1) := by decide +kernel
theorem dS_seal_20 : decode cS_seal 20 = .ok (.invokevirtual 88, 3) := by decide +kernel
theorem dS_seal_23 : decode cS_seal 23 = .ok (.aload_n 0, 1) := by decide +kernel
theorem dS_seal_24 : decode cS_seal 24 = .ok (.iload_n 1, 1) := by decide +kernel
theorem dS_seal_25 : decode cS_seal 25 = .ok (.aload_n 0, 1) := by decide +kernel
theorem dS_seal_26 : decode cS_seal 26 = .ok (.getfield 17, 3) := by decide +kernel
theorem dS_seal_29 : decode cS_seal 29 = .ok (.iconst 0, 1) := by decide +kernel
theorem dS_seal_30 : decode cS_seal 30 = .ok (.iload_n 2, 1) := by decide +kernel
theorem dS_seal_31 : decode cS_seal 31 = .ok (.invokevirtual 92, 3) := by decide +kernel
theorem dS_seal_34 : decode cS_seal 34 = .ok (.aload_n 0, 1) := by decide +kernel
theorem dS_seal_35 : decode cS_seal 35 = .ok (.getfield 35, 3) := by decide +kernel
theorem dS_seal_38 : decode cS_seal 38 = .ok (.iconst 0, 1) := by decide +kernel
theorem dS_seal_39 : decode cS_seal 39 = .ok (.aload_n 0, 1) := by decide +kernel
theorem dS_seal_40 : decode cS_seal 40 = .ok (.getfield 17, 3) := by decide +kernel
theorem dS_seal_43 : decode cS_seal 43 = .ok (.iload_n 2, 1) := by decide +kernel
theorem dS_seal_44 : decode cS_seal 44 = .ok (.bipush 16, 2) := by decide +kernel
theorem dS_seal_46 : decode cS_seal 46 = .ok (.invokestatic 67, 3) := by decide +kernel
theorem dS_seal_49 : decode cS_seal 49 = .ok (.aload_n 0, 1) := by decide +kernel
theorem dS_seal_50 : decode cS_seal 50 = .ok (.iload_n 2, 1) := by decide +kernel
theorem dS_seal_51 : decode cS_seal 51 = .ok (.bipush 16, 2) := by decide +kernel
theorem dS_seal_53 : decode cS_seal 53 = .ok (.iadd, 1) := by decide +kernel
theorem dS_seal_54 : decode cS_seal 54 = .ok (.putfield 20, 3) := by decide +kernel
theorem dS_seal_57 : decode cS_seal 57 = .ok (.aload_n 0, 1) := by decide +kernel
theorem dS_seal_58 : decode cS_seal 58 = .ok (.iconst 0, 1) := by decide +kernel
theorem dS_seal_59 : decode cS_seal 59 = .ok (.putfield 13, 3) := by decide +kernel
theorem dS_seal_62 : decode cS_seal 62 = .ok (.aload_n 0, 1) := by decide +kernel
theorem dS_seal_63 : decode cS_seal 63 = .ok (.getfield 20, 3) := by decide +kernel
theorem dS_seal_66 : decode cS_seal 66 = .ok (.ireturn, 1) := by decide +kernel
theorem dS_open_0 : decode cS_open 0 = .ok (.iload_n 1, 1) := by decide +kernel
theorem dS_open_1 : decode cS_open 1 = .ok (.ifCond .lt 14, 3) := by decide +kernel
theorem dS_open_4 : decode cS_open 4 = .ok (.iload_n 1, 1) := by decide +kernel
theorem dS_open_5 : decode cS_open 5 = .ok (.aload_n 0, 1) := by decide +kernel
theorem dS_open_6 : decode cS_open 6 = .ok (.getfield 13, 3) := by decide +kernel
theorem dS_open_9 : decode cS_open 9 = .ok (.bipush 16, 2) := by decide +kernel
theorem dS_open_11 : decode cS_open 11 = .ok (.isub, 1) := by decide +kernel
theorem dS_open_12 : decode cS_open 12 = .ok (.if_icmp .le 5, 3) := by decide +kernel
theorem dS_open_15 : decode cS_open 15 = .ok (.iconst (-1), 1) := by decide +kernel
theorem dS_open_16 : decode cS_open 16 = .ok (.ireturn, 1) := by decide +kernel
theorem dS_open_17 : decode cS_open 17 = .ok (.aload_n 0, 1) := by decide +kernel
theorem dS_open_18 : decode cS_open 18 = .ok (.getfield 13, 3) := by decide +kernel
theorem dS_open_21 : decode cS_open 21 = .ok (.bipush 16, 2) := by decide +kernel
theorem dS_open_23 : decode cS_open 23 = .ok (.isub, 1) := by decide +kernel
theorem dS_open_24 : decode cS_open 24 = .ok (.iload_n 1, 1) := by decide +kernel
theorem dS_open_25 : decode cS_open 25 = .ok (.isub, 1) := by decide +kernel
theorem dS_open_26 : decode cS_open 26 = .ok (.istore_n 2, 1) := by decide +kernel
theorem dS_open_27 : decode cS_open 27 = .ok (.aload_n 0, 1) := by decide +kernel
theorem dS_open_28 : decode cS_open 28 = .ok (.iload_n 1, 1) := by decide +kernel
theorem dS_open_29 : decode cS_open 29 = .ok (.aload_n 0, 1) := by decide +kernel
theorem dS_open_30 : decode cS_open 30 = .ok (.getfield 9, 3) := by decide +kernel
theorem dS_open_33 : decode cS_open 33 = .ok (.iload_n 1, 1) := by decide +kernel
theorem dS_open_34 : decode cS_open 34 = .ok (.iload_n 2, 1) := by decide +kernel
theorem dS_open_35 : decode cS_open 35 = .ok (.invokevirtual 92, 3) := by decide +kernel
theorem dS_open_38 : decode cS_open 38 = .ok (.aload_n 0, 1) := by decide +kernel
theorem dS_open_39 : decode cS_open 39 = .ok (.iconst 0, 1) := by decide +kernel
theorem dS_open_40 : decode cS_open 40 = .ok (.putfield 13, 3) := by decide +kernel
theorem dS_open_43 : decode cS_open 43 = .ok (.aload_n 0, 1) := by decide +kernel
theorem dS_open_44 : decode cS_open 44 = .ok (.iload_n 1, 1) := by decide +kernel
theorem dS_open_45 : decode cS_open 45 = .ok (.iload_n 2, 1) := by decide +kernel
theorem dS_open_46 : decode cS_open 46 = .ok (.iadd, 1) := by decide +kernel
theorem dS_open_47 : decode cS_open 47 = .ok (.invokevirtual 96, 3) := by decide +kernel
theorem dS_open_50 : decode cS_open 50 = .ok (.ifCond .ne 6, 3) := by decide +kernel
theorem dS_open_53 : decode cS_open 53 = .ok (.bipush (-2), 2) := by decide +kernel
theorem dS_open_55 : decode cS_open 55 = .ok (.ireturn, 1) := by decide +kernel
theorem dS_open_56 : decode cS_open 56 = .ok (.aload_n 0, 1) := by decide +kernel
theorem dS_open_57 : decode cS_open 57 = .ok (.iload_n 1, 1) := by decide +kernel
theorem dS_open_58 : decode cS_open 58 = .ok (.iload_n 2, 1) := by decide +kernel
theorem dS_open_59 : decode cS_open 59 = .ok (.invokevirtual 88, 3) := by decide +kernel
theorem dS_open_62 : decode cS_open 62 = .ok (.aload_n 0, 1) := by decide +kernel
theorem dS_open_63 : decode cS_open 63 = .ok (.iload_n 2, 1) := by decide +kernel
theorem dS_open_64 : decode cS_open 64 = .ok (.putfield 20, 3) := by decide +kernel
theorem dS_open_67 : decode cS_open 67 = .ok (.aload_n 0, 1) := by decide +kernel
theorem dS_open_68 : decode cS_open 68 = .ok (.getfield 20, 3) := by decide +kernel
theorem dS_open_71 : decode cS_open 71 = .ok (.ireturn, 1) := by decide +kernel
theorem dS_digest_0 : decode cS_digest 0 = .ok (.aload_n 0, 1) := by decide +kernel
theorem dS_digest_1 : decode cS_digest 1 = .ok (.getfield 55, 3) := by decide +kernel
theorem dS_digest_4 : decode cS_digest 4 = .ok (.invokevirtual 99, 3) := by decide +kernel
theorem dS_digest_7 : decode cS_digest 7 = .ok (.aload_n 0, 1) := by decide +kernel
theorem dS_digest_8 : decode cS_digest 8 = .ok (.getfield 55, 3) := by decide +kernel
theorem dS_digest_11 : decode cS_digest 11 = .ok (.aload_n 0, 1) := by decide +kernel
theorem dS_digest_12 : decode cS_digest 12 = .ok (.getfield 9, 3) := by decide +kernel
theorem dS_digest_15 : decode cS_digest 15 = .ok (.aload_n 0, 1) := by decide +kernel
theorem dS_digest_16 : decode cS_digest 16 = .ok (.getfield 13, 3) := by decide +kernel
theorem dS_digest_19 : decode cS_digest 19 = .ok (.invokevirtual 101, 3) := by decide +kernel
theorem dS_digest_22 : decode cS_digest 22 = .ok (.aload_n 0, 1) := by decide +kernel
theorem dS_digest_23 : decode cS_digest 23 = .ok (.getfield 55, 3) := by decide +kernel
theorem dS_digest_26 : decode cS_digest 26 = .ok (.aload_n 0, 1) := by decide +kernel
theorem dS_digest_27 : decode cS_digest 27 = .ok (.getfield 17, 3) := by decide +kernel
theorem dS_digest_30 : decode cS_digest 30 = .ok (.invokevirtual 103, 3) := by decide +kernel
theorem dS_digest_33 : decode cS_digest 33 = .ok (.aload_n 0, 1) := by decide +kernel
theorem dS_digest_34 : decode cS_digest 34 = .ok (.bipush 32, 2) := by decide +kernel
theorem dS_digest_36 : decode cS_digest 36 = .ok (.putfield 20, 3) := by decide +kernel
theorem dS_digest_39 : decode cS_digest 39 = .ok (.aload_n 0, 1) := by decide +kernel
theorem dS_digest_40 : decode cS_digest 40 = .ok (.iconst 0, 1) := by decide +kernel
theorem dS_digest_41 : decode cS_digest 41 = .ok (.putfield 13, 3) := by decide +kernel
theorem dS_digest_44 : decode cS_digest 44 = .ok (.aload_n 0, 1) := by decide +kernel
theorem dS_digest_45 : decode cS_digest 45 = .ok (.getfield 20, 3) := by decide +kernel
theorem dS_digest_48 : decode cS_digest 48 = .ok (.ireturn, 1) := by decide +kernel
theorem dS_mac_0 : decode cS_mac 0 = .ok (.aload_n 0, 1) := by decide +kernel
theorem dS_mac_1 : decode cS_mac 1 = .ok (.getfield 55, 3) := by decide +kernel
theorem dS_mac_4 : decode cS_mac 4 = .ok (.invokevirtual 99, 3) := by decide +kernel
theorem dS_mac_7 : decode cS_mac 7 = .ok (.aload_n 0, 1) := by decide +kernel
theorem dS_mac_8 : decode cS_mac 8 = .ok (.getfield 55, 3) := by decide +kernel
theorem dS_mac_11 : decode cS_mac 11 = .ok (.aload_n 0, 1) := by decide +kernel
theorem dS_mac_12 : decode cS_mac 12 = .ok (.getfield 23, 3) := by decide +kernel
theorem dS_mac_15 : decode cS_mac 15 = .ok (.bipush 54, 2) := by decide +kernel
theorem dS_mac_17 : decode cS_mac 17 = .ok (.invokevirtual 105, 3) := by decide +kernel
theorem dS_mac_20 : decode cS_mac 20 = .ok (.aload_n 0, 1) := by decide +kernel
theorem dS_mac_21 : decode cS_mac 21 = .ok (.getfield 55, 3) := by decide +kernel
theorem dS_mac_24 : decode cS_mac 24 = .ok (.aload_n 0, 1) := by decide +kernel
theorem dS_mac_25 : decode cS_mac 25 = .ok (.getfield 9, 3) := by decide +kernel
theorem dS_mac_28 : decode cS_mac 28 = .ok (.aload_n 0, 1) := by decide +kernel
theorem dS_mac_29 : decode cS_mac 29 = .ok (.getfield 13, 3) := by decide +kernel
theorem dS_mac_32 : decode cS_mac 32 = .ok (.invokevirtual 101, 3) := by decide +kernel
theorem dS_mac_35 : decode cS_mac 35 = .ok (.aload_n 0, 1) := by decide +kernel
theorem dS_mac_36 : decode cS_mac 36 = .ok (.getfield 55, 3) := by decide +kernel
theorem dS_mac_39 : decode cS_mac 39 = .ok (.aload_n 0, 1) := by decide +kernel
theorem dS_mac_40 : decode cS_mac 40 = .ok (.getfield 17, 3) := by decide +kernel
theorem dS_mac_43 : decode cS_mac 43 = .ok (.invokevirtual 103, 3) := by decide +kernel
theorem dS_mac_46 : decode cS_mac 46 = .ok (.aload_n 0, 1) := by decide +kernel
theorem dS_mac_47 : decode cS_mac 47 = .ok (.getfield 55, 3) := by decide +kernel
theorem dS_mac_50 : decode cS_mac 50 = .ok (.invokevirtual 99, 3) := by decide +kernel
theorem dS_mac_53 : decode cS_mac 53 = .ok (.aload_n 0, 1) := by decide +kernel
theorem dS_mac_54 : decode cS_mac 54 = .ok (.getfield 55, 3) := by decide +kernel
theorem dS_mac_57 : decode cS_mac 57 = .ok (.aload_n 0, 1) := by decide +kernel
theorem dS_mac_58 : decode cS_mac 58 = .ok (.getfield 23, 3) := by decide +kernel
theorem dS_mac_61 : decode cS_mac 61 = .ok (.bipush 92, 2) := by decide +kernel
theorem dS_mac_63 : decode cS_mac 63 = .ok (.invokevirtual 105, 3) := by decide +kernel
theorem dS_mac_66 : decode cS_mac 66 = .ok (.aload_n 0, 1) := by decide +kernel
theorem dS_mac_67 : decode cS_mac 67 = .ok (.getfield 55, 3) := by decide +kernel
theorem dS_mac_70 : decode cS_mac 70 = .ok (.aload_n 0, 1) := by decide +kernel
theorem dS_mac_71 : decode cS_mac 71 = .ok (.getfield 17, 3) := by decide +kernel
theorem dS_mac_74 : decode cS_mac 74 = .ok (.bipush 32, 2) := by decide +kernel
theorem dS_mac_76 : decode cS_mac 76 = .ok (.invokevirtual 101, 3) := by decide +kernel
theorem dS_mac_79 : decode cS_mac 79 = .ok (.aload_n 0, 1) := by decide +kernel
theorem dS_mac_80 : decode cS_mac 80 = .ok (.getfield 55, 3) := by decide +kernel
theorem dS_mac_83 : decode cS_mac 83 = .ok (.aload_n 0, 1) := by decide +kernel
theorem dS_mac_84 : decode cS_mac 84 = .ok (.getfield 17, 3) := by decide +kernel
theorem dS_mac_87 : decode cS_mac 87 = .ok (.invokevirtual 103, 3) := by decide +kernel
theorem dS_mac_90 : decode cS_mac 90 = .ok (.aload_n 0, 1) := by decide +kernel
theorem dS_mac_91 : decode cS_mac 91 = .ok (.bipush 32, 2) := by decide +kernel
theorem dS_mac_93 : decode cS_mac 93 = .ok (.putfield 20, 3) := by decide +kernel
theorem dS_mac_96 : decode cS_mac 96 = .ok (.aload_n 0, 1) := by decide +kernel
theorem dS_mac_97 : decode cS_mac 97 = .ok (.iconst 0, 1) := by decide +kernel
theorem dS_mac_98 : decode cS_mac 98 = .ok (.putfield 13, 3) := by decide +kernel
theorem dS_mac_101 : decode cS_mac 101 = .ok (.aload_n 0, 1) := by decide +kernel
theorem dS_mac_102 : decode cS_mac 102 = .ok (.getfield 20, 3) := by decide +kernel
theorem dS_mac_105 : decode cS_mac 105 = .ok (.ireturn, 1) := by decide +kernel
theorem dS_octet_0 : decode cS_octet 0 = .ok (.iload_n 1, 1) := by decide +kernel
theorem dS_octet_1 : decode cS_octet 1 = .ok (.iconst (-1), 1) := by decide +kernel
theorem dS_octet_2 : decode cS_octet 2 = .ok (.if_icmp .ne 8, 3) := by decide +kernel
theorem dS_octet_5 : decode cS_octet 5 = .ok (.aload_n 0, 1) := by decide +kernel
theorem dS_octet_6 : decode cS_octet 6 = .ok (.getfield 20, 3) := by decide +kernel
theorem dS_octet_9 : decode cS_octet 9 = .ok (.ireturn, 1) := by decide +kernel
theorem dS_octet_10 : decode cS_octet 10 = .ok (.iload_n 1, 1) := by decide +kernel
theorem dS_octet_11 : decode cS_octet 11 = .ok (.ifCond .lt 11, 3) := by decide +kernel
theorem dS_octet_14 : decode cS_octet 14 = .ok (.iload_n 1, 1) := by decide +kernel
theorem dS_octet_15 : decode cS_octet 15 = .ok (.aload_n 0, 1) := by decide +kernel
theorem dS_octet_16 : decode cS_octet 16 = .ok (.getfield 20, 3) := by decide +kernel
theorem dS_octet_19 : decode cS_octet 19 = .ok (.if_icmp .lt 6, 3) := by decide +kernel
theorem dS_octet_22 : decode cS_octet 22 = .ok (.bipush (-2), 2) := by decide +kernel
theorem dS_octet_24 : decode cS_octet 24 = .ok (.ireturn, 1) := by decide +kernel
theorem dS_octet_25 : decode cS_octet 25 = .ok (.aload_n 0, 1) := by decide +kernel
theorem dS_octet_26 : decode cS_octet 26 = .ok (.getfield 17, 3) := by decide +kernel
theorem dS_octet_29 : decode cS_octet 29 = .ok (.iload_n 1, 1) := by decide +kernel
theorem dS_octet_30 : decode cS_octet 30 = .ok (.baload, 1) := by decide +kernel
theorem dS_octet_31 : decode cS_octet 31 = .ok (.sipush 255, 3) := by decide +kernel
theorem dS_octet_34 : decode cS_octet 34 = .ok (.iand, 1) := by decide +kernel
theorem dS_octet_35 : decode cS_octet 35 = .ok (.ireturn, 1) := by decide +kernel
theorem dS_tapeReaches_0 : decode cS_tapeReaches 0 = .ok (.iload_n 1, 1) := by decide +kernel
theorem dS_tapeReaches_1 : decode cS_tapeReaches 1 = .ok (.ifCond .lt 15, 3) := by decide +kernel
theorem dS_tapeReaches_4 : decode cS_tapeReaches 4 = .ok (.iload_n 1, 1) := by decide +kernel
theorem dS_tapeReaches_5 : decode cS_tapeReaches 5 = .ok (.aload_n 0, 1) := by decide +kernel
theorem dS_tapeReaches_6 : decode cS_tapeReaches 6 = .ok (.getfield 13, 3) := by decide +kernel
theorem dS_tapeReaches_9 : decode cS_tapeReaches 9 = .ok (.if_icmp .gt 7, 3) := by decide +kernel
theorem dS_tapeReaches_12 : decode cS_tapeReaches 12 = .ok (.iconst 1, 1) := by decide +kernel
theorem dS_tapeReaches_13 : decode cS_tapeReaches 13 = .ok (.goto 4, 3) := by decide +kernel
theorem dS_tapeReaches_16 : decode cS_tapeReaches 16 = .ok (.iconst 0, 1) := by decide +kernel
theorem dS_tapeReaches_17 : decode cS_tapeReaches 17 = .ok (.ireturn, 1) := by decide +kernel
theorem dS_streamTapeToOut_0 : decode cS_streamTapeToOut 0 = .ok (.iconst 1, 1) := by decide +kernel
theorem dS_streamTapeToOut_1 : decode cS_streamTapeToOut 1 = .ok (.istore_n 3, 1) := by decide +kernel
theorem dS_streamTapeToOut_2 : decode cS_streamTapeToOut 2 = .ok (.iconst 0, 1) := by decide +kernel
theorem dS_streamTapeToOut_3 : decode cS_streamTapeToOut 3 = .ok (.istore 4, 2) := by decide +kernel
theorem dS_streamTapeToOut_5 : decode cS_streamTapeToOut 5 = .ok (.iload 4, 2) := by decide +kernel
theorem dS_streamTapeToOut_7 : decode cS_streamTapeToOut 7 = .ok (.iload_n 2, 1) := by decide +kernel
theorem dS_streamTapeToOut_8 : decode cS_streamTapeToOut 8 = .ok (.if_icmp .ge 90, 3) := by decide +kernel
theorem dS_streamTapeToOut_11 : decode cS_streamTapeToOut 11 = .ok (.aload_n 0, 1) := by decide +kernel
theorem dS_streamTapeToOut_12 : decode cS_streamTapeToOut 12 = .ok (.getfield 41, 3) := by decide +kernel
theorem dS_streamTapeToOut_15 : decode cS_streamTapeToOut 15 = .ok (.aload_n 0, 1) := by decide +kernel
theorem dS_streamTapeToOut_16 : decode cS_streamTapeToOut 16 = .ok (.getfield 29, 3) := by decide +kernel
theorem dS_streamTapeToOut_19 : decode cS_streamTapeToOut 19 = .ok (.aload_n 0, 1) := by decide +kernel
theorem dS_streamTapeToOut_20 : decode cS_streamTapeToOut 20 = .ok (.getfield 23, 3) := by decide +kernel
theorem dS_streamTapeToOut_23 : decode cS_streamTapeToOut 23 = .ok (.aload_n 0, 1) := by decide +kernel
theorem dS_streamTapeToOut_24 : decode cS_streamTapeToOut 24 = .ok (.getfield 26, 3) := by decide +kernel
theorem dS_streamTapeToOut_27 : decode cS_streamTapeToOut 27 = .ok (.iload_n 3, 1) := by decide +kernel
theorem dS_streamTapeToOut_28 : decode cS_streamTapeToOut 28 = .ok (.invokevirtual 73, 3) := by decide +kernel
theorem dS_streamTapeToOut_31 : decode cS_streamTapeToOut 31 = .ok (.bipush 64, 2) := by decide +kernel
theorem dS_streamTapeToOut_33 : decode cS_streamTapeToOut 33 = .ok (.iload_n 2, 1) := by decide +kernel
theorem dS_streamTapeToOut_34 : decode cS_streamTapeToOut 34 = .ok (.iload 4, 2) := by decide +kernel
theorem dS_streamTapeToOut_36 : decode cS_streamTapeToOut 36 = .ok (.isub, 1) := by decide +kernel
theorem dS_streamTapeToOut_37 : decode cS_streamTapeToOut 37 = .ok (.invokestatic 108, 3) := by decide +kernel
theorem dS_streamTapeToOut_40 : decode cS_streamTapeToOut 40 = .ok (.istore 5, 2) := by decide +kernel
theorem dS_streamTapeToOut_42 : decode cS_streamTapeToOut 42 = .ok (.iconst 0, 1) := by decide +kernel
theorem dS_streamTapeToOut_43 : decode cS_streamTapeToOut 43 = .ok (.istore 6, 2) := by decide +kernel
theorem dS_streamTapeToOut_45 : decode cS_streamTapeToOut 45 = .ok (.iload 6, 2) := by decide +kernel
theorem dS_streamTapeToOut_47 : decode cS_streamTapeToOut 47 = .ok (.iload 5, 2) := by decide +kernel
theorem dS_streamTapeToOut_49 : decode cS_streamTapeToOut 49 = .ok (.if_icmp .ge 40, 3) := by decide +kernel
theorem dS_streamTapeToOut_52 : decode cS_streamTapeToOut 52 = .ok (.aload_n 0, 1) := by decide +kernel
theorem dS_streamTapeToOut_53 : decode cS_streamTapeToOut 53 = .ok (.getfield 17, 3) := by decide +kernel
theorem dS_streamTapeToOut_56 : decode cS_streamTapeToOut 56 = .ok (.iload 4, 2) := by decide +kernel
theorem dS_streamTapeToOut_58 : decode cS_streamTapeToOut 58 = .ok (.iload 6, 2) := by decide +kernel
theorem dS_streamTapeToOut_60 : decode cS_streamTapeToOut 60 = .ok (.iadd, 1) := by decide +kernel
theorem dS_streamTapeToOut_61 : decode cS_streamTapeToOut 61 = .ok (.aload_n 0, 1) := by decide +kernel
theorem dS_streamTapeToOut_62 : decode cS_streamTapeToOut 62 = .ok (.getfield 9, 3) := by decide +kernel
theorem dS_streamTapeToOut_65 : decode cS_streamTapeToOut 65 = .ok (.iload_n 1, 1) := by decide +kernel
theorem dS_streamTapeToOut_66 : decode cS_streamTapeToOut 66 = .ok (.iload 4, 2) := by decide +kernel
theorem dS_streamTapeToOut_68 : decode cS_streamTapeToOut 68 = .ok (.iadd, 1) := by decide +kernel
theorem dS_streamTapeToOut_69 : decode cS_streamTapeToOut 69 = .ok (.iload 6, 2) := by decide +kernel
theorem dS_streamTapeToOut_71 : decode cS_streamTapeToOut 71 = .ok (.iadd, 1) := by decide +kernel
theorem dS_streamTapeToOut_72 : decode cS_streamTapeToOut 72 = .ok (.baload, 1) := by decide +kernel
theorem dS_streamTapeToOut_73 : decode cS_streamTapeToOut 73 = .ok (.aload_n 0, 1) := by decide +kernel
theorem dS_streamTapeToOut_74 : decode cS_streamTapeToOut 74 = .ok (.getfield 29, 3) := by decide +kernel
theorem dS_streamTapeToOut_77 : decode cS_streamTapeToOut 77 = .ok (.iload 6, 2) := by decide +kernel
theorem dS_streamTapeToOut_79 : decode cS_streamTapeToOut 79 = .ok (.baload, 1) := by decide +kernel
theorem dS_streamTapeToOut_80 : decode cS_streamTapeToOut 80 = .ok (.ixor, 1) := by decide +kernel
theorem dS_streamTapeToOut_81 : decode cS_streamTapeToOut 81 = .ok (.i2b, 1) := by decide +kernel
theorem dS_streamTapeToOut_82 : decode cS_streamTapeToOut 82 = .ok (.bastore, 1) := by decide +kernel
theorem dS_streamTapeToOut_83 : decode cS_streamTapeToOut 83 = .ok (.iinc 6 1, 3) := by decide +kernel
theorem dS_streamTapeToOut_86 : decode cS_streamTapeToOut 86 = .ok (.goto (-41), 3) := by decide +kernel
theorem dS_streamTapeToOut_89 : decode cS_streamTapeToOut 89 = .ok (.iinc 3 1, 3) := by decide +kernel
theorem dS_streamTapeToOut_92 : decode cS_streamTapeToOut 92 = .ok (.iinc 4 64, 3) := by decide +kernel
theorem dS_streamTapeToOut_95 : decode cS_streamTapeToOut 95 = .ok (.goto (-90), 3) := by decide +kernel
theorem dS_streamTapeToOut_98 : decode cS_streamTapeToOut 98 = .ok (.return_, 1) := by decide +kernel
theorem dS_sumSealed_0 : decode cS_sumSealed 0 = .ok (.aload_n 0, 1) := by decide +kernel
theorem dS_sumSealed_1 : decode cS_sumSealed 1 = .ok (.getfield 41, 3) := by decide +kernel
theorem dS_sumSealed_4 : decode cS_sumSealed 4 = .ok (.aload_n 0, 1) := by decide +kernel
theorem dS_sumSealed_5 : decode cS_sumSealed 5 = .ok (.getfield 29, 3) := by decide +kernel
theorem dS_sumSealed_8 : decode cS_sumSealed 8 = .ok (.aload_n 0, 1) := by decide +kernel
theorem dS_sumSealed_9 : decode cS_sumSealed 9 = .ok (.getfield 23, 3) := by decide +kernel
theorem dS_sumSealed_12 : decode cS_sumSealed 12 = .ok (.aload_n 0, 1) := by decide +kernel
theorem dS_sumSealed_13 : decode cS_sumSealed 13 = .ok (.getfield 26, 3) := by decide +kernel
theorem dS_sumSealed_16 : decode cS_sumSealed 16 = .ok (.iconst 0, 1) := by decide +kernel
theorem dS_sumSealed_17 : decode cS_sumSealed 17 = .ok (.invokevirtual 73, 3) := by decide +kernel
theorem dS_sumSealed_20 : decode cS_sumSealed 20 = .ok (.aload_n 0, 1) := by decide +kernel
theorem dS_sumSealed_21 : decode cS_sumSealed 21 = .ok (.getfield 48, 3) := by decide +kernel
theorem dS_sumSealed_24 : decode cS_sumSealed 24 = .ok (.aload_n 0, 1) := by decide +kernel
theorem dS_sumSealed_25 : decode cS_sumSealed 25 = .ok (.getfield 29, 3) := by decide +kernel
theorem dS_sumSealed_28 : decode cS_sumSealed 28 = .ok (.invokevirtual 77, 3) := by decide +kernel
theorem dS_sumSealed_31 : decode cS_sumSealed 31 = .ok (.aload_n 0, 1) := by decide +kernel
theorem dS_sumSealed_32 : decode cS_sumSealed 32 = .ok (.getfield 48, 3) := by decide +kernel
theorem dS_sumSealed_35 : decode cS_sumSealed 35 = .ok (.aload_n 0, 1) := by decide +kernel
theorem dS_sumSealed_36 : decode cS_sumSealed 36 = .ok (.getfield 9, 3) := by decide +kernel
theorem dS_sumSealed_39 : decode cS_sumSealed 39 = .ok (.iconst 0, 1) := by decide +kernel
theorem dS_sumSealed_40 : decode cS_sumSealed 40 = .ok (.iload_n 1, 1) := by decide +kernel
theorem dS_sumSealed_41 : decode cS_sumSealed 41 = .ok (.invokevirtual 114, 3) := by decide +kernel
theorem dS_sumSealed_44 : decode cS_sumSealed 44 = .ok (.aload_n 0, 1) := by decide +kernel
theorem dS_sumSealed_45 : decode cS_sumSealed 45 = .ok (.getfield 48, 3) := by decide +kernel
theorem dS_sumSealed_48 : decode cS_sumSealed 48 = .ok (.aload_n 2, 1) := by decide +kernel
theorem dS_sumSealed_49 : decode cS_sumSealed 49 = .ok (.iload_n 3, 1) := by decide +kernel
theorem dS_sumSealed_50 : decode cS_sumSealed 50 = .ok (.iload 4, 2) := by decide +kernel
theorem dS_sumSealed_52 : decode cS_sumSealed 52 = .ok (.invokevirtual 114, 3) := by decide +kernel
theorem dS_sumSealed_55 : decode cS_sumSealed 55 = .ok (.aload_n 0, 1) := by decide +kernel
theorem dS_sumSealed_56 : decode cS_sumSealed 56 = .ok (.getfield 32, 3) := by decide +kernel
theorem dS_sumSealed_59 : decode cS_sumSealed 59 = .ok (.iconst 0, 1) := by decide +kernel
theorem dS_sumSealed_60 : decode cS_sumSealed 60 = .ok (.iload_n 1, 1) := by decide +kernel
theorem dS_sumSealed_61 : decode cS_sumSealed 61 = .ok (.invokestatic 117, 3) := by decide +kernel
theorem dS_sumSealed_64 : decode cS_sumSealed 64 = .ok (.aload_n 0, 1) := by decide +kernel
theorem dS_sumSealed_65 : decode cS_sumSealed 65 = .ok (.getfield 32, 3) := by decide +kernel
theorem dS_sumSealed_68 : decode cS_sumSealed 68 = .ok (.bipush 8, 2) := by decide +kernel
theorem dS_sumSealed_70 : decode cS_sumSealed 70 = .ok (.iload 4, 2) := by decide +kernel
theorem dS_sumSealed_72 : decode cS_sumSealed 72 = .ok (.invokestatic 117, 3) := by decide +kernel
theorem dS_sumSealed_75 : decode cS_sumSealed 75 = .ok (.aload_n 0, 1) := by decide +kernel
theorem dS_sumSealed_76 : decode cS_sumSealed 76 = .ok (.getfield 48, 3) := by decide +kernel
theorem dS_sumSealed_79 : decode cS_sumSealed 79 = .ok (.aload_n 0, 1) := by decide +kernel
theorem dS_sumSealed_80 : decode cS_sumSealed 80 = .ok (.getfield 32, 3) := by decide +kernel
theorem dS_sumSealed_83 : decode cS_sumSealed 83 = .ok (.iconst 0, 1) := by decide +kernel
theorem dS_sumSealed_84 : decode cS_sumSealed 84 = .ok (.bipush 16, 2) := by decide +kernel
theorem dS_sumSealed_86 : decode cS_sumSealed 86 = .ok (.invokevirtual 81, 3) := by decide +kernel
theorem dS_sumSealed_89 : decode cS_sumSealed 89 = .ok (.aload_n 0, 1) := by decide +kernel
theorem dS_sumSealed_90 : decode cS_sumSealed 90 = .ok (.getfield 48, 3) := by decide +kernel
theorem dS_sumSealed_93 : decode cS_sumSealed 93 = .ok (.aload_n 0, 1) := by decide +kernel
theorem dS_sumSealed_94 : decode cS_sumSealed 94 = .ok (.getfield 35, 3) := by decide +kernel
theorem dS_sumSealed_97 : decode cS_sumSealed 97 = .ok (.iconst 0, 1) := by decide +kernel
theorem dS_sumSealed_98 : decode cS_sumSealed 98 = .ok (.invokevirtual 84, 3) := by decide +kernel
theorem dS_sumSealed_101 : decode cS_sumSealed 101 = .ok (.return_, 1) := by decide +kernel
theorem dS_sumStandsAt_0 : decode cS_sumStandsAt 0 = .ok (.iconst 0, 1) := by decide +kernel
theorem dS_sumStandsAt_1 : decode cS_sumStandsAt 1 = .ok (.istore_n 2, 1) := by decide +kernel
theorem dS_sumStandsAt_2 : decode cS_sumStandsAt 2 = .ok (.iconst 0, 1) := by decide +kernel
theorem dS_sumStandsAt_3 : decode cS_sumStandsAt 3 = .ok (.istore_n 3, 1) := by decide +kernel
theorem dS_sumStandsAt_4 : decode cS_sumStandsAt 4 = .ok (.iload_n 3, 1) := by decide +kernel
theorem dS_sumStandsAt_5 : decode cS_sumStandsAt 5 = .ok (.bipush 16, 2) := by decide +kernel
theorem dS_sumStandsAt_7 : decode cS_sumStandsAt 7 = .ok (.if_icmp .ge 27, 3) := by decide +kernel
theorem dS_sumStandsAt_10 : decode cS_sumStandsAt 10 = .ok (.iload_n 2, 1) := by decide +kernel
theorem dS_sumStandsAt_11 : decode cS_sumStandsAt 11 = .ok (.aload_n 0, 1) := by decide +kernel
theorem dS_sumStandsAt_12 : decode cS_sumStandsAt 12 = .ok (.getfield 35, 3) := by decide +kernel
theorem dS_sumStandsAt_15 : decode cS_sumStandsAt 15 = .ok (.iload_n 3, 1) := by decide +kernel
theorem dS_sumStandsAt_16 : decode cS_sumStandsAt 16 = .ok (.baload, 1) := by decide +kernel
theorem dS_sumStandsAt_17 : decode cS_sumStandsAt 17 = .ok (.aload_n 0, 1) := by decide +kernel
theorem dS_sumStandsAt_18 : decode cS_sumStandsAt 18 = .ok (.getfield 9, 3) := by decide +kernel
theorem dS_sumStandsAt_21 : decode cS_sumStandsAt 21 = .ok (.iload_n 1, 1) := by decide +kernel
theorem dS_sumStandsAt_22 : decode cS_sumStandsAt 22 = .ok (.iload_n 3, 1) := by decide +kernel
theorem dS_sumStandsAt_23 : decode cS_sumStandsAt 23 = .ok (.iadd, 1) := by decide +kernel
theorem dS_sumStandsAt_24 : decode cS_sumStandsAt 24 = .ok (.baload, 1) := by decide +kernel
theorem dS_sumStandsAt_25 : decode cS_sumStandsAt 25 = .ok (.ixor, 1) := by decide +kernel
theorem dS_sumStandsAt_26 : decode cS_sumStandsAt 26 = .ok (.ior, 1) := by decide +kernel
theorem dS_sumStandsAt_27 : decode cS_sumStandsAt 27 = .ok (.istore_n 2, 1) := by decide +kernel
theorem dS_sumStandsAt_28 : decode cS_sumStandsAt 28 = .ok (.iinc 3 1, 3) := by decide +kernel
theorem dS_sumStandsAt_31 : decode cS_sumStandsAt 31 = .ok (.goto (-27), 3) := by decide +kernel
theorem dS_sumStandsAt_34 : decode cS_sumStandsAt 34 = .ok (.iload_n 2, 1) := by decide +kernel
theorem dS_sumStandsAt_35 : decode cS_sumStandsAt 35 = .ok (.ifCond .ne 7, 3) := by decide +kernel
theorem dS_sumStandsAt_38 : decode cS_sumStandsAt 38 = .ok (.iconst 1, 1) := by decide +kernel
theorem dS_sumStandsAt_39 : decode cS_sumStandsAt 39 = .ok (.goto 4, 3) := by decide +kernel
theorem dS_sumStandsAt_42 : decode cS_sumStandsAt 42 = .ok (.iconst 0, 1) := by decide +kernel
theorem dS_sumStandsAt_43 : decode cS_sumStandsAt 43 = .ok (.ireturn, 1) := by decide +kernel
theorem dS_writeHighestFirst_0 : decode cS_writeHighestFirst 0 = .ok (.aload_n 0, 1) := by decide +kernel
theorem dS_writeHighestFirst_1 : decode cS_writeHighestFirst 1 = .ok (.iload_n 1, 1) := by decide +kernel
theorem dS_writeHighestFirst_2 : decode cS_writeHighestFirst 2 = .ok (.iload_n 2, 1) := by decide +kernel
theorem dS_writeHighestFirst_3 : decode cS_writeHighestFirst 3 = .ok (.bipush 24, 2) := by decide +kernel
theorem dS_writeHighestFirst_5 : decode cS_writeHighestFirst 5 = .ok (.iushr, 1) := by decide +kernel
theorem dS_writeHighestFirst_6 : decode cS_writeHighestFirst 6 = .ok (.i2b, 1) := by decide +kernel
theorem dS_writeHighestFirst_7 : decode cS_writeHighestFirst 7 = .ok (.bastore, 1) := by decide +kernel
theorem dS_writeHighestFirst_8 : decode cS_writeHighestFirst 8 = .ok (.aload_n 0, 1) := by decide +kernel
theorem dS_writeHighestFirst_9 : decode cS_writeHighestFirst 9 = .ok (.iload_n 1, 1) := by decide +kernel
theorem dS_writeHighestFirst_10 : decode cS_writeHighestFirst 10 = .ok (.iconst 1, 1) := by decide +kernel
theorem dS_writeHighestFirst_11 : decode cS_writeHighestFirst 11 = .ok (.iadd, 1) := by decide +kernel
theorem dS_writeHighestFirst_12 : decode cS_writeHighestFirst 12 = .ok (.iload_n 2, 1) := by decide +kernel
theorem dS_writeHighestFirst_13 : decode cS_writeHighestFirst 13 = .ok (.bipush 16, 2) := by decide +kernel
theorem dS_writeHighestFirst_15 : decode cS_writeHighestFirst 15 = .ok (.iushr, 1) := by decide +kernel
theorem dS_writeHighestFirst_16 : decode cS_writeHighestFirst 16 = .ok (.i2b, 1) := by decide +kernel
theorem dS_writeHighestFirst_17 : decode cS_writeHighestFirst 17 = .ok (.bastore, 1) := by decide +kernel
theorem dS_writeHighestFirst_18 : decode cS_writeHighestFirst 18 = .ok (.aload_n 0, 1) := by decide +kernel
theorem dS_writeHighestFirst_19 : decode cS_writeHighestFirst 19 = .ok (.iload_n 1, 1) := by decide +kernel
theorem dS_writeHighestFirst_20 : decode cS_writeHighestFirst 20 = .ok (.iconst 2, 1) := by decide +kernel
theorem dS_writeHighestFirst_21 : decode cS_writeHighestFirst 21 = .ok (.iadd, 1) := by decide +kernel
theorem dS_writeHighestFirst_22 : decode cS_writeHighestFirst 22 = .ok (.iload_n 2, 1) := by decide +kernel
theorem dS_writeHighestFirst_23 : decode cS_writeHighestFirst 23 = .ok (.bipush 8, 2) := by decide +kernel
theorem dS_writeHighestFirst_25 : decode cS_writeHighestFirst 25 = .ok (.iushr, 1) := by decide +kernel
theorem dS_writeHighestFirst_26 : decode cS_writeHighestFirst 26 = .ok (.i2b, 1) := by decide +kernel
theorem dS_writeHighestFirst_27 : decode cS_writeHighestFirst 27 = .ok (.bastore, 1) := by decide +kernel
theorem dS_writeHighestFirst_28 : decode cS_writeHighestFirst 28 = .ok (.aload_n 0, 1) := by decide +kernel
theorem dS_writeHighestFirst_29 : decode cS_writeHighestFirst 29 = .ok (.iload_n 1, 1) := by decide +kernel
theorem dS_writeHighestFirst_30 : decode cS_writeHighestFirst 30 = .ok (.iconst 3, 1) := by decide +kernel
theorem dS_writeHighestFirst_31 : decode cS_writeHighestFirst 31 = .ok (.iadd, 1) := by decide +kernel
theorem dS_writeHighestFirst_32 : decode cS_writeHighestFirst 32 = .ok (.iload_n 2, 1) := by decide +kernel
theorem dS_writeHighestFirst_33 : decode cS_writeHighestFirst 33 = .ok (.i2b, 1) := by decide +kernel
theorem dS_writeHighestFirst_34 : decode cS_writeHighestFirst 34 = .ok (.bastore, 1) := by decide +kernel
theorem dS_writeHighestFirst_35 : decode cS_writeHighestFirst 35 = .ok (.return_, 1) := by decide +kernel
theorem dS_writeLowestFirst_0 : decode cS_writeLowestFirst 0 = .ok (.aload_n 0, 1) := by decide +kernel
theorem dS_writeLowestFirst_1 : decode cS_writeLowestFirst 1 = .ok (.iload_n 1, 1) := by decide +kernel
theorem dS_writeLowestFirst_2 : decode cS_writeLowestFirst 2 = .ok (.iload_n 2, 1) := by decide +kernel
theorem dS_writeLowestFirst_3 : decode cS_writeLowestFirst 3 = .ok (.i2b, 1) := by decide +kernel
theorem dS_writeLowestFirst_4 : decode cS_writeLowestFirst 4 = .ok (.bastore, 1) := by decide +kernel
theorem dS_writeLowestFirst_5 : decode cS_writeLowestFirst 5 = .ok (.aload_n 0, 1) := by decide +kernel
theorem dS_writeLowestFirst_6 : decode cS_writeLowestFirst 6 = .ok (.iload_n 1, 1) := by decide +kernel
theorem dS_writeLowestFirst_7 : decode cS_writeLowestFirst 7 = .ok (.iconst 1, 1) := by decide +kernel
theorem dS_writeLowestFirst_8 : decode cS_writeLowestFirst 8 = .ok (.iadd, 1) := by decide +kernel
theorem dS_writeLowestFirst_9 : decode cS_writeLowestFirst 9 = .ok (.iload_n 2, 1) := by decide +kernel
theorem dS_writeLowestFirst_10 : decode cS_writeLowestFirst 10 = .ok (.bipush 8, 2) := by decide +kernel
theorem dS_writeLowestFirst_12 : decode cS_writeLowestFirst 12 = .ok (.iushr, 1) := by decide +kernel
theorem dS_writeLowestFirst_13 : decode cS_writeLowestFirst 13 = .ok (.i2b, 1) := by decide +kernel
theorem dS_writeLowestFirst_14 : decode cS_writeLowestFirst 14 = .ok (.bastore, 1) := by decide +kernel
theorem dS_writeLowestFirst_15 : decode cS_writeLowestFirst 15 = .ok (.aload_n 0, 1) := by decide +kernel
theorem dS_writeLowestFirst_16 : decode cS_writeLowestFirst 16 = .ok (.iload_n 1, 1) := by decide +kernel
theorem dS_writeLowestFirst_17 : decode cS_writeLowestFirst 17 = .ok (.iconst 2, 1) := by decide +kernel
theorem dS_writeLowestFirst_18 : decode cS_writeLowestFirst 18 = .ok (.iadd, 1) := by decide +kernel
theorem dS_writeLowestFirst_19 : decode cS_writeLowestFirst 19 = .ok (.iload_n 2, 1) := by decide +kernel
theorem dS_writeLowestFirst_20 : decode cS_writeLowestFirst 20 = .ok (.bipush 16, 2) := by decide +kernel
theorem dS_writeLowestFirst_22 : decode cS_writeLowestFirst 22 = .ok (.iushr, 1) := by decide +kernel
theorem dS_writeLowestFirst_23 : decode cS_writeLowestFirst 23 = .ok (.i2b, 1) := by decide +kernel
theorem dS_writeLowestFirst_24 : decode cS_writeLowestFirst 24 = .ok (.bastore, 1) := by decide +kernel
theorem dS_writeLowestFirst_25 : decode cS_writeLowestFirst 25 = .ok (.aload_n 0, 1) := by decide +kernel
theorem dS_writeLowestFirst_26 : decode cS_writeLowestFirst 26 = .ok (.iload_n 1, 1) := by decide +kernel
theorem dS_writeLowestFirst_27 : decode cS_writeLowestFirst 27 = .ok (.iconst 3, 1) := by decide +kernel
theorem dS_writeLowestFirst_28 : decode cS_writeLowestFirst 28 = .ok (.iadd, 1) := by decide +kernel
theorem dS_writeLowestFirst_29 : decode cS_writeLowestFirst 29 = .ok (.iload_n 2, 1) := by decide +kernel
theorem dS_writeLowestFirst_30 : decode cS_writeLowestFirst 30 = .ok (.bipush 24, 2) := by decide +kernel
theorem dS_writeLowestFirst_32 : decode cS_writeLowestFirst 32 = .ok (.iushr, 1) := by decide +kernel
theorem dS_writeLowestFirst_33 : decode cS_writeLowestFirst 33 = .ok (.i2b, 1) := by decide +kernel
theorem dS_writeLowestFirst_34 : decode cS_writeLowestFirst 34 = .ok (.bastore, 1) := by decide +kernel
theorem dS_writeLowestFirst_35 : decode cS_writeLowestFirst 35 = .ok (.return_, 1) := by decide +kernel
theorem dS_readHighestFirst_0 : decode cS_readHighestFirst 0 = .ok (.aload_n 0, 1) := by decide +kernel
theorem dS_readHighestFirst_1 : decode cS_readHighestFirst 1 = .ok (.iload_n 1, 1) := by decide +kernel
theorem dS_readHighestFirst_2 : decode cS_readHighestFirst 2 = .ok (.baload, 1) := by decide +kernel
theorem dS_readHighestFirst_3 : decode cS_readHighestFirst 3 = .ok (.sipush 255, 3) := by decide +kernel
theorem dS_readHighestFirst_6 : decode cS_readHighestFirst 6 = .ok (.iand, 1) := by decide +kernel
theorem dS_readHighestFirst_7 : decode cS_readHighestFirst 7 = .ok (.bipush 24, 2) := by decide +kernel
theorem dS_readHighestFirst_9 : decode cS_readHighestFirst 9 = .ok (.ishl, 1) := by decide +kernel
theorem dS_readHighestFirst_10 : decode cS_readHighestFirst 10 = .ok (.aload_n 0, 1) := by decide +kernel
theorem dS_readHighestFirst_11 : decode cS_readHighestFirst 11 = .ok (.iload_n 1, 1) := by decide +kernel
theorem dS_readHighestFirst_12 : decode cS_readHighestFirst 12 = .ok (.iconst 1, 1) := by decide +kernel
theorem dS_readHighestFirst_13 : decode cS_readHighestFirst 13 = .ok (.iadd, 1) := by decide +kernel
theorem dS_readHighestFirst_14 : decode cS_readHighestFirst 14 = .ok (.baload, 1) := by decide +kernel
theorem dS_readHighestFirst_15 : decode cS_readHighestFirst 15 = .ok (.sipush 255, 3) := by decide +kernel
theorem dS_readHighestFirst_18 : decode cS_readHighestFirst 18 = .ok (.iand, 1) := by decide +kernel
theorem dS_readHighestFirst_19 : decode cS_readHighestFirst 19 = .ok (.bipush 16, 2) := by decide +kernel
theorem dS_readHighestFirst_21 : decode cS_readHighestFirst 21 = .ok (.ishl, 1) := by decide +kernel
theorem dS_readHighestFirst_22 : decode cS_readHighestFirst 22 = .ok (.ior, 1) := by decide +kernel
theorem dS_readHighestFirst_23 : decode cS_readHighestFirst 23 = .ok (.aload_n 0, 1) := by decide +kernel
theorem dS_readHighestFirst_24 : decode cS_readHighestFirst 24 = .ok (.iload_n 1, 1) := by decide +kernel
theorem dS_readHighestFirst_25 : decode cS_readHighestFirst 25 = .ok (.iconst 2, 1) := by decide +kernel
theorem dS_readHighestFirst_26 : decode cS_readHighestFirst 26 = .ok (.iadd, 1) := by decide +kernel
theorem dS_readHighestFirst_27 : decode cS_readHighestFirst 27 = .ok (.baload, 1) := by decide +kernel
theorem dS_readHighestFirst_28 : decode cS_readHighestFirst 28 = .ok (.sipush 255, 3) := by decide +kernel
theorem dS_readHighestFirst_31 : decode cS_readHighestFirst 31 = .ok (.iand, 1) := by decide +kernel
theorem dS_readHighestFirst_32 : decode cS_readHighestFirst 32 = .ok (.bipush 8, 2) := by decide +kernel
theorem dS_readHighestFirst_34 : decode cS_readHighestFirst 34 = .ok (.ishl, 1) := by decide +kernel
theorem dS_readHighestFirst_35 : decode cS_readHighestFirst 35 = .ok (.ior, 1) := by decide +kernel
theorem dS_readHighestFirst_36 : decode cS_readHighestFirst 36 = .ok (.aload_n 0, 1) := by decide +kernel
theorem dS_readHighestFirst_37 : decode cS_readHighestFirst 37 = .ok (.iload_n 1, 1) := by decide +kernel
theorem dS_readHighestFirst_38 : decode cS_readHighestFirst 38 = .ok (.iconst 3, 1) := by decide +kernel
theorem dS_readHighestFirst_39 : decode cS_readHighestFirst 39 = .ok (.iadd, 1) := by decide +kernel
theorem dS_readHighestFirst_40 : decode cS_readHighestFirst 40 = .ok (.baload, 1) := by decide +kernel
theorem dS_readHighestFirst_41 : decode cS_readHighestFirst 41 = .ok (.sipush 255, 3) := by decide +kernel
theorem dS_readHighestFirst_44 : decode cS_readHighestFirst 44 = .ok (.iand, 1) := by decide +kernel
theorem dS_readHighestFirst_45 : decode cS_readHighestFirst 45 = .ok (.ior, 1) := by decide +kernel
theorem dS_readHighestFirst_46 : decode cS_readHighestFirst 46 = .ok (.ireturn, 1) := by decide +kernel
theorem dS_readLowestFirst_0 : decode cS_readLowestFirst 0 = .ok (.aload_n 0, 1) := by decide +kernel
theorem dS_readLowestFirst_1 : decode cS_readLowestFirst 1 = .ok (.iload_n 1, 1) := by decide +kernel
theorem dS_readLowestFirst_2 : decode cS_readLowestFirst 2 = .ok (.baload, 1) := by decide +kernel
theorem dS_readLowestFirst_3 : decode cS_readLowestFirst 3 = .ok (.sipush 255, 3) := by decide +kernel
theorem dS_readLowestFirst_6 : decode cS_readLowestFirst 6 = .ok (.iand, 1) := by decide +kernel
theorem dS_readLowestFirst_7 : decode cS_readLowestFirst 7 = .ok (.aload_n 0, 1) := by decide +kernel
theorem dS_readLowestFirst_8 : decode cS_readLowestFirst 8 = .ok (.iload_n 1, 1) := by decide +kernel
theorem dS_readLowestFirst_9 : decode cS_readLowestFirst 9 = .ok (.iconst 1, 1) := by decide +kernel
theorem dS_readLowestFirst_10 : decode cS_readLowestFirst 10 = .ok (.iadd, 1) := by decide +kernel
theorem dS_readLowestFirst_11 : decode cS_readLowestFirst 11 = .ok (.baload, 1) := by decide +kernel
theorem dS_readLowestFirst_12 : decode cS_readLowestFirst 12 = .ok (.sipush 255, 3) := by decide +kernel
theorem dS_readLowestFirst_15 : decode cS_readLowestFirst 15 = .ok (.iand, 1) := by decide +kernel
theorem dS_readLowestFirst_16 : decode cS_readLowestFirst 16 = .ok (.bipush 8, 2) := by decide +kernel
theorem dS_readLowestFirst_18 : decode cS_readLowestFirst 18 = .ok (.ishl, 1) := by decide +kernel
theorem dS_readLowestFirst_19 : decode cS_readLowestFirst 19 = .ok (.ior, 1) := by decide +kernel
theorem dS_readLowestFirst_20 : decode cS_readLowestFirst 20 = .ok (.aload_n 0, 1) := by decide +kernel
theorem dS_readLowestFirst_21 : decode cS_readLowestFirst 21 = .ok (.iload_n 1, 1) := by decide +kernel
theorem dS_readLowestFirst_22 : decode cS_readLowestFirst 22 = .ok (.iconst 2, 1) := by decide +kernel
theorem dS_readLowestFirst_23 : decode cS_readLowestFirst 23 = .ok (.iadd, 1) := by decide +kernel
theorem dS_readLowestFirst_24 : decode cS_readLowestFirst 24 = .ok (.baload, 1) := by decide +kernel
theorem dS_readLowestFirst_25 : decode cS_readLowestFirst 25 = .ok (.sipush 255, 3) := by decide +kernel
theorem dS_readLowestFirst_28 : decode cS_readLowestFirst 28 = .ok (.iand, 1) := by decide +kernel
theorem dS_readLowestFirst_29 : decode cS_readLowestFirst 29 = .ok (.bipush 16, 2) := by decide +kernel
theorem dS_readLowestFirst_31 : decode cS_readLowestFirst 31 = .ok (.ishl, 1) := by decide +kernel
theorem dS_readLowestFirst_32 : decode cS_readLowestFirst 32 = .ok (.ior, 1) := by decide +kernel
theorem dS_readLowestFirst_33 : decode cS_readLowestFirst 33 = .ok (.aload_n 0, 1) := by decide +kernel
theorem dS_readLowestFirst_34 : decode cS_readLowestFirst 34 = .ok (.iload_n 1, 1) := by decide +kernel
theorem dS_readLowestFirst_35 : decode cS_readLowestFirst 35 = .ok (.iconst 3, 1) := by decide +kernel
theorem dS_readLowestFirst_36 : decode cS_readLowestFirst 36 = .ok (.iadd, 1) := by decide +kernel
theorem dS_readLowestFirst_37 : decode cS_readLowestFirst 37 = .ok (.baload, 1) := by decide +kernel
theorem dS_readLowestFirst_38 : decode cS_readLowestFirst 38 = .ok (.sipush 255, 3) := by decide +kernel
theorem dS_readLowestFirst_41 : decode cS_readLowestFirst 41 = .ok (.iand, 1) := by decide +kernel
theorem dS_readLowestFirst_42 : decode cS_readLowestFirst 42 = .ok (.bipush 24, 2) := by decide +kernel
theorem dS_readLowestFirst_44 : decode cS_readLowestFirst 44 = .ok (.ishl, 1) := by decide +kernel
theorem dS_readLowestFirst_45 : decode cS_readLowestFirst 45 = .ok (.ior, 1) := by decide +kernel
theorem dS_readLowestFirst_46 : decode cS_readLowestFirst 46 = .ok (.ireturn, 1) := by decide +kernel
theorem dS_turnLeft_0 : decode cS_turnLeft 0 = .ok (.iload_n 0, 1) := by decide +kernel
theorem dS_turnLeft_1 : decode cS_turnLeft 1 = .ok (.iload_n 1, 1) := by decide +kernel
theorem dS_turnLeft_2 : decode cS_turnLeft 2 = .ok (.ishl, 1) := by decide +kernel
theorem dS_turnLeft_3 : decode cS_turnLeft 3 = .ok (.iload_n 0, 1) := by decide +kernel
theorem dS_turnLeft_4 : decode cS_turnLeft 4 = .ok (.bipush 32, 2) := by decide +kernel
theorem dS_turnLeft_6 : decode cS_turnLeft 6 = .ok (.iload_n 1, 1) := by decide +kernel
theorem dS_turnLeft_7 : decode cS_turnLeft 7 = .ok (.isub, 1) := by decide +kernel
theorem dS_turnLeft_8 : decode cS_turnLeft 8 = .ok (.iushr, 1) := by decide +kernel
theorem dS_turnLeft_9 : decode cS_turnLeft 9 = .ok (.ior, 1) := by decide +kernel
theorem dS_turnLeft_10 : decode cS_turnLeft 10 = .ok (.ireturn, 1) := by decide +kernel
theorem dS_turnRight_0 : decode cS_turnRight 0 = .ok (.iload_n 0, 1) := by decide +kernel
theorem dS_turnRight_1 : decode cS_turnRight 1 = .ok (.iload_n 1, 1) := by decide +kernel
theorem dS_turnRight_2 : decode cS_turnRight 2 = .ok (.iushr, 1) := by decide +kernel
theorem dS_turnRight_3 : decode cS_turnRight 3 = .ok (.iload_n 0, 1) := by decide +kernel
theorem dS_turnRight_4 : decode cS_turnRight 4 = .ok (.bipush 32, 2) := by decide +kernel
theorem dS_turnRight_6 : decode cS_turnRight 6 = .ok (.iload_n 1, 1) := by decide +kernel
theorem dS_turnRight_7 : decode cS_turnRight 7 = .ok (.isub, 1) := by decide +kernel
theorem dS_turnRight_8 : decode cS_turnRight 8 = .ok (.ishl, 1) := by decide +kernel
theorem dS_turnRight_9 : decode cS_turnRight 9 = .ok (.ior, 1) := by decide +kernel
theorem dS_turnRight_10 : decode cS_turnRight 10 = .ok (.ireturn, 1) := by decide +kernel
theorem dC_init_0 : decode cC_init 0 = .ok (.aload_n 0, 1) := by decide +kernel
theorem dC_init_1 : decode cC_init 1 = .ok (.invokespecial 1, 3) := by decide +kernel
theorem dC_init_4 : decode cC_init 4 = .ok (.aload_n 0, 1) := by decide +kernel
theorem dC_init_5 : decode cC_init 5 = .ok (.bipush 16, 2) := by decide +kernel
theorem dC_init_7 : decode cC_init 7 = .ok (.newarray .int, 2) := by decide +kernel
theorem dC_init_9 : decode cC_init 9 = .ok (.putfield 9, 3) := by decide +kernel
theorem dC_init_12 : decode cC_init 12 = .ok (.aload_n 0, 1) := by decide +kernel
theorem dC_init_13 : decode cC_init 13 = .ok (.bipush 16, 2) := by decide +kernel
theorem dC_init_15 : decode cC_init 15 = .ok (.newarray .int, 2) := by decide +kernel
theorem dC_init_17 : decode cC_init 17 = .ok (.putfield 13, 3) := by decide +kernel
theorem dC_init_20 : decode cC_init 20 = .ok (.return_, 1) := by decide +kernel
theorem dC_fill_0 : decode cC_fill 0 = .ok (.aload_n 0, 1) := by decide +kernel
theorem dC_fill_1 : decode cC_fill 1 = .ok (.aload_n 2, 1) := by decide +kernel
theorem dC_fill_2 : decode cC_fill 2 = .ok (.aload_n 3, 1) := by decide +kernel
theorem dC_fill_3 : decode cC_fill 3 = .ok (.iload 4, 2) := by decide +kernel
theorem dC_fill_5 : decode cC_fill 5 = .ok (.invokevirtual 16, 3) := by decide +kernel
theorem dC_fill_8 : decode cC_fill 8 = .ok (.aload_n 0, 1) := by decide +kernel
theorem dC_fill_9 : decode cC_fill 9 = .ok (.getfield 9, 3) := by decide +kernel
theorem dC_fill_12 : decode cC_fill 12 = .ok (.iconst 0, 1) := by decide +kernel
theorem dC_fill_13 : decode cC_fill 13 = .ok (.aload_n 0, 1) := by decide +kernel
theorem dC_fill_14 : decode cC_fill 14 = .ok (.getfield 13, 3) := by decide +kernel
theorem dC_fill_17 : decode cC_fill 17 = .ok (.iconst 0, 1) := by decide +kernel
theorem dC_fill_18 : decode cC_fill 18 = .ok (.bipush 16, 2) := by decide +kernel
theorem dC_fill_20 : decode cC_fill 20 = .ok (.invokestatic 20, 3) := by decide +kernel
theorem dC_fill_23 : decode cC_fill 23 = .ok (.iconst 0, 1) := by decide +kernel
theorem dC_fill_24 : decode cC_fill 24 = .ok (.istore 5, 2) := by decide +kernel
theorem dC_fill_26 : decode cC_fill 26 = .ok (.iload 5, 2) := by decide +kernel
theorem dC_fill_28 : decode cC_fill 28 = .ok (.bipush 10, 2) := by decide +kernel
theorem dC_fill_30 : decode cC_fill 30 = .ok (.if_icmp .ge 17, 3) := by decide +kernel
theorem dC_fill_33 : decode cC_fill 33 = .ok (.aload_n 0, 1) := by decide +kernel
theorem dC_fill_34 : decode cC_fill 34 = .ok (.invokevirtual 26, 3) := by decide +kernel
theorem dC_fill_37 : decode cC_fill 37 = .ok (.aload_n 0, 1) := by decide +kernel
theorem dC_fill_38 : decode cC_fill 38 = .ok (.invokevirtual 29, 3) := by decide +kernel
theorem dC_fill_41 : decode cC_fill 41 = .ok (.iinc 5 1, 3) := by decide +kernel
theorem dC_fill_44 : decode cC_fill 44 = .ok (.goto (-18), 3) := by decide +kernel
theorem dC_fill_47 : decode cC_fill 47 = .ok (.iconst 0, 1) := by decide +kernel
theorem dC_fill_48 : decode cC_fill 48 = .ok (.istore 5, 2) := by decide +kernel
theorem dC_fill_50 : decode cC_fill 50 = .ok (.iload 5, 2) := by decide +kernel
theorem dC_fill_52 : decode cC_fill 52 = .ok (.bipush 16, 2) := by decide +kernel
theorem dC_fill_54 : decode cC_fill 54 = .ok (.if_icmp .ge 32, 3) := by decide +kernel
theorem dC_fill_57 : decode cC_fill 57 = .ok (.aload_n 1, 1) := by decide +kernel
theorem dC_fill_58 : decode cC_fill 58 = .ok (.iconst 4, 1) := by decide +kernel
theorem dC_fill_59 : decode cC_fill 59 = .ok (.iload 5, 2) := by decide +kernel
theorem dC_fill_61 : decode cC_fill 61 = .ok (.imul, 1) := by decide +kernel
theorem dC_fill_62 : decode cC_fill 62 = .ok (.aload_n 0, 1) := by decide +kernel
theorem dC_fill_63 : decode cC_fill 63 = .ok (.getfield 13, 3) := by decide +kernel
theorem dC_fill_66 : decode cC_fill 66 = .ok (.iload 5, 2) := by decide +kernel
theorem dC_fill_68 : decode cC_fill 68 = .ok (.iaload, 1) := by decide +kernel
theorem dC_fill_69 : decode cC_fill 69 = .ok (.aload_n 0, 1) := by decide +kernel
theorem dC_fill_70 : decode cC_fill 70 = .ok (.getfield 9, 3) := by decide +kernel
theorem dC_fill_73 : decode cC_fill 73 = .ok (.iload 5, 2) := by decide +kernel
theorem dC_fill_75 : decode cC_fill 75 = .ok (.iaload, 1) := by decide +kernel
theorem dC_fill_76 : decode cC_fill 76 = .ok (.iadd, 1) := by decide +kernel
theorem dC_fill_77 : decode cC_fill 77 = .ok (.invokestatic 32, 3) := by decide +kernel
theorem dC_fill_80 : decode cC_fill 80 = .ok (.iinc 5 1, 3) := by decide +kernel
theorem dC_fill_83 : decode cC_fill 83 = .ok (.goto (-33), 3) := by decide +kernel
theorem dC_fill_86 : decode cC_fill 86 = .ok (.return_, 1) := by decide +kernel
theorem dC_lay_0 : decode cC_lay 0 = .ok (.aload_n 0, 1) := by decide +kernel
theorem dC_lay_1 : decode cC_lay 1 = .ok (.getfield 9, 3) := by decide +kernel
theorem dC_lay_4 : decode cC_lay 4 = .ok (.iconst 0, 1) := by decide +kernel
theorem dC_lay_5 : decode cC_lay 5 = .ok (.ldc 38, 2) := by decide +kernel
theorem dC_lay_7 : decode cC_lay 7 = .ok (.iastore, 1) := by decide +kernel
theorem dC_lay_8 : decode cC_lay 8 = .ok (.aload_n 0, 1) := by decide +kernel
theorem dC_lay_9 : decode cC_lay 9 = .ok (.getfield 9, 3) := by decide +kernel
theorem dC_lay_12 : decode cC_lay 12 = .ok (.iconst 1, 1) := by decide +kernel
theorem dC_lay_13 : decode cC_lay 13 = .ok (.ldc 39, 2) := by decide +kernel
theorem dC_lay_15 : decode cC_lay 15 = .ok (.iastore, 1) := by decide +kernel
theorem dC_lay_16 : decode cC_lay 16 = .ok (.aload_n 0, 1) := by decide +kernel
theorem dC_lay_17 : decode cC_lay 17 = .ok (.getfield 9, 3) := by decide +kernel
theorem dC_lay_20 : decode cC_lay 20 = .ok (.iconst 2, 1) := by decide +kernel
theorem dC_lay_21 : decode cC_lay 21 = .ok (.ldc 40, 2) := by decide +kernel
theorem dC_lay_23 : decode cC_lay 23 = .ok (.iastore, 1) := by decide +kernel
theorem dC_lay_24 : decode cC_lay 24 = .ok (.aload_n 0, 1) := by decide +kernel
theorem dC_lay_25 : decode cC_lay 25 = .ok (.getfield 9, 3) := by decide +kernel
theorem dC_lay_28 : decode cC_lay 28 = .ok (.iconst 3, 1) := by decide +kernel
theorem dC_lay_29 : decode cC_lay 29 = .ok (.ldc 41, 2) := by decide +kernel
theorem dC_lay_31 : decode cC_lay 31 = .ok (.iastore, 1) := by decide +kernel
theorem dC_lay_32 : decode cC_lay 32 = .ok (.iconst 0, 1) := by decide +kernel
theorem dC_lay_33 : decode cC_lay 33 = .ok (.istore 4, 2) := by decide +kernel
theorem dC_lay_35 : decode cC_lay 35 = .ok (.iload 4, 2) := by decide +kernel
theorem dC_lay_37 : decode cC_lay 37 = .ok (.bipush 8, 2) := by decide +kernel
theorem dC_lay_39 : decode cC_lay 39 = .ok (.if_icmp .ge 26, 3) := by decide +kernel
theorem dC_lay_42 : decode cC_lay 42 = .ok (.aload_n 0, 1) := by decide +kernel
theorem dC_lay_43 : decode cC_lay 43 = .ok (.getfield 9, 3) := by decide +kernel
theorem dC_lay_46 : decode cC_lay 46 = .ok (.iconst 4, 1) := by decide +kernel
theorem dC_lay_47 : decode cC_lay 47 = .ok (.iload 4, 2) := by decide +kernel
theorem dC_lay_49 : decode cC_lay 49 = .ok (.iadd, 1) := by decide +kernel
theorem dC_lay_50 : decode cC_lay 50 = .ok (.aload_n 1, 1) := by decide +kernel
theorem dC_lay_51 : decode cC_lay 51 = .ok (.iconst 4, 1) := by decide +kernel
theorem dC_lay_52 : decode cC_lay 52 = .ok (.iload 4, 2) := by decide +kernel
theorem dC_lay_54 : decode cC_lay 54 = .ok (.imul, 1) := by decide +kernel
theorem dC_lay_55 : decode cC_lay 55 = .ok (.invokestatic 42, 3) := by decide +kernel
theorem dC_lay_58 : decode cC_lay 58 = .ok (.iastore, 1) := by decide +kernel
theorem dC_lay_59 : decode cC_lay 59 = .ok (.iinc 4 1, 3) := by decide +kernel
theorem dC_lay_62 : decode cC_lay 62 = .ok (.goto (-27), 3) := by decide +kernel
theorem dC_lay_65 : decode cC_lay 65 = .ok (.aload_n 0, 1) := by decide +kernel
theorem dC_lay_66 : decode cC_lay 66 = .ok (.getfield 9, 3) := by decide +kernel
theorem dC_lay_69 : decode cC_lay 69 = .ok (.bipush 12, 2) := by decide +kernel
theorem dC_lay_71 : decode cC_lay 71 = .ok (.iload_n 3, 1) := by decide +kernel
theorem dC_lay_72 : decode cC_lay 72 = .ok (.iastore, 1) := by decide +kernel
theorem dC_lay_73 : decode cC_lay 73 = .ok (.iconst 0, 1) := by decide +kernel
theorem dC_lay_74 : decode cC_lay 74 = .ok (.istore 4, 2) := by decide +kernel
theorem dC_lay_76 : decode cC_lay 76 = .ok (.iload 4, 2) := by decide +kernel
theorem dC_lay_78 : decode cC_lay 78 = .ok (.iconst 3, 1) := by decide +kernel
theorem dC_lay_79 : decode cC_lay 79 = .ok (.if_icmp .ge 27, 3) := by decide +kernel
theorem dC_lay_82 : decode cC_lay 82 = .ok (.aload_n 0, 1) := by decide +kernel
theorem dC_lay_83 : decode cC_lay 83 = .ok (.getfield 9, 3) := by decide +kernel
theorem dC_lay_86 : decode cC_lay 86 = .ok (.bipush 13, 2) := by decide +kernel
theorem dC_lay_88 : decode cC_lay 88 = .ok (.iload 4, 2) := by decide +kernel
theorem dC_lay_90 : decode cC_lay 90 = .ok (.iadd, 1) := by decide +kernel
theorem dC_lay_91 : decode cC_lay 91 = .ok (.aload_n 2, 1) := by decide +kernel
theorem dC_lay_92 : decode cC_lay 92 = .ok (.iconst 4, 1) := by decide +kernel
theorem dC_lay_93 : decode cC_lay 93 = .ok (.iload 4, 2) := by decide +kernel
theorem dC_lay_95 : decode cC_lay 95 = .ok (.imul, 1) := by decide +kernel
theorem dC_lay_96 : decode cC_lay 96 = .ok (.invokestatic 42, 3) := by decide +kernel
theorem dC_lay_99 : decode cC_lay 99 = .ok (.iastore, 1) := by decide +kernel
theorem dC_lay_100 : decode cC_lay 100 = .ok (.iinc 4 1, 3) := by decide +kernel
theorem dC_lay_103 : decode cC_lay 103 = .ok (.goto (-27), 3) := by decide +kernel
theorem dC_lay_106 : decode cC_lay 106 = .ok (.return_, 1) := by decide +kernel
theorem dC_mixColumns_0 : decode cC_mixColumns 0 = .ok (.aload_n 0, 1) := by decide +kernel
theorem dC_mixColumns_1 : decode cC_mixColumns 1 = .ok (.iconst 0, 1) := by decide +kernel
theorem dC_mixColumns_2 : decode cC_mixColumns 2 = .ok (.iconst 4, 1) := by decide +kernel
theorem dC_mixColumns_3 : decode cC_mixColumns 3 = .ok (.bipush 8, 2) := by decide +kernel
theorem dC_mixColumns_5 : decode cC_mixColumns 5 = .ok (.bipush 12, 2) := by decide +kernel
theorem dC_mixColumns_7 : decode cC_mixColumns 7 = .ok (.invokevirtual 46, 3) := by decide +kernel
theorem dC_mixColumns_10 : decode cC_mixColumns 10 = .ok (.aload_n 0, 1) := by decide +kernel
theorem dC_mixColumns_11 : decode cC_mixColumns 11 = .ok (.iconst 1, 1) := by decide +kernel
theorem dC_mixColumns_12 : decode cC_mixColumns 12 = .ok (.iconst 5, 1) := by decide +kernel
theorem dC_mixColumns_13 : decode cC_mixColumns 13 = .ok (.bipush 9, 2) := by decide +kernel
theorem dC_mixColumns_15 : decode cC_mixColumns 15 = .ok (.bipush 13, 2) := by decide +kernel
theorem dC_mixColumns_17 : decode cC_mixColumns 17 = .ok (.invokevirtual 46, 3) := by decide +kernel
theorem dC_mixColumns_20 : decode cC_mixColumns 20 = .ok (.aload_n 0, 1) := by decide +kernel
theorem dC_mixColumns_21 : decode cC_mixColumns 21 = .ok (.iconst 2, 1) := by decide +kernel
theorem dC_mixColumns_22 : decode cC_mixColumns 22 = .ok (.bipush 6, 2) := by decide +kernel
theorem dC_mixColumns_24 : decode cC_mixColumns 24 = .ok (.bipush 10, 2) := by decide +kernel
theorem dC_mixColumns_26 : decode cC_mixColumns 26 = .ok (.bipush 14, 2) := by decide +kernel
theorem dC_mixColumns_28 : decode cC_mixColumns 28 = .ok (.invokevirtual 46, 3) := by decide +kernel
theorem dC_mixColumns_31 : decode cC_mixColumns 31 = .ok (.aload_n 0, 1) := by decide +kernel
theorem dC_mixColumns_32 : decode cC_mixColumns 32 = .ok (.iconst 3, 1) := by decide +kernel
theorem dC_mixColumns_33 : decode cC_mixColumns 33 = .ok (.bipush 7, 2) := by decide +kernel
theorem dC_mixColumns_35 : decode cC_mixColumns 35 = .ok (.bipush 11, 2) := by decide +kernel
theorem dC_mixColumns_37 : decode cC_mixColumns 37 = .ok (.bipush 15, 2) := by decide +kernel
theorem dC_mixColumns_39 : decode cC_mixColumns 39 = .ok (.invokevirtual 46, 3) := by decide +kernel
theorem dC_mixColumns_42 : decode cC_mixColumns 42 = .ok (.return_, 1) := by decide +kernel
theorem dC_mixDiagonals_0 : decode cC_mixDiagonals 0 = .ok (.aload_n 0, 1) := by decide +kernel
theorem dC_mixDiagonals_1 : decode cC_mixDiagonals 1 = .ok (.iconst 0, 1) := by decide +kernel
theorem dC_mixDiagonals_2 : decode cC_mixDiagonals 2 = .ok (.iconst 5, 1) := by decide +kernel
theorem dC_mixDiagonals_3 : decode cC_mixDiagonals 3 = .ok (.bipush 10, 2) := by decide +kernel
theorem dC_mixDiagonals_5 : decode cC_mixDiagonals 5 = .ok (.bipush 15, 2) := by decide +kernel
theorem dC_mixDiagonals_7 : decode cC_mixDiagonals 7 = .ok (.invokevirtual 46, 3) := by decide +kernel
theorem dC_mixDiagonals_10 : decode cC_mixDiagonals 10 = .ok (.aload_n 0, 1) := by decide +kernel
theorem dC_mixDiagonals_11 : decode cC_mixDiagonals 11 = .ok (.iconst 1, 1) := by decide +kernel
theorem dC_mixDiagonals_12 : decode cC_mixDiagonals 12 = .ok (.bipush 6, 2) := by decide +kernel
theorem dC_mixDiagonals_14 : decode cC_mixDiagonals 14 = .ok (.bipush 11, 2) := by decide +kernel
theorem dC_mixDiagonals_16 : decode cC_mixDiagonals 16 = .ok (.bipush 12, 2) := by decide +kernel
theorem dC_mixDiagonals_18 : decode cC_mixDiagonals 18 = .ok (.invokevirtual 46, 3) := by decide +kernel
theorem dC_mixDiagonals_21 : decode cC_mixDiagonals 21 = .ok (.aload_n 0, 1) := by decide +kernel
theorem dC_mixDiagonals_22 : decode cC_mixDiagonals 22 = .ok (.iconst 2, 1) := by decide +kernel
theorem dC_mixDiagonals_23 : decode cC_mixDiagonals 23 = .ok (.bipush 7, 2) := by decide +kernel
theorem dC_mixDiagonals_25 : decode cC_mixDiagonals 25 = .ok (.bipush 8, 2) := by decide +kernel
theorem dC_mixDiagonals_27 : decode cC_mixDiagonals 27 = .ok (.bipush 13, 2) := by decide +kernel
theorem dC_mixDiagonals_29 : decode cC_mixDiagonals 29 = .ok (.invokevirtual 46, 3) := by decide +kernel
theorem dC_mixDiagonals_32 : decode cC_mixDiagonals 32 = .ok (.aload_n 0, 1) := by decide +kernel
theorem dC_mixDiagonals_33 : decode cC_mixDiagonals 33 = .ok (.iconst 3, 1) := by decide +kernel
theorem dC_mixDiagonals_34 : decode cC_mixDiagonals 34 = .ok (.iconst 4, 1) := by decide +kernel
theorem dC_mixDiagonals_35 : decode cC_mixDiagonals 35 = .ok (.bipush 9, 2) := by decide +kernel
theorem dC_mixDiagonals_37 : decode cC_mixDiagonals 37 = .ok (.bipush 14, 2) := by decide +kernel
theorem dC_mixDiagonals_39 : decode cC_mixDiagonals 39 = .ok (.invokevirtual 46, 3) := by decide +kernel
theorem dC_mixDiagonals_42 : decode cC_mixDiagonals 42 = .ok (.return_, 1) := by decide +kernel
theorem dC_mixQuarter_0 : decode cC_mixQuarter 0 = .ok (.aload_n 0, 1) := by decide +kernel
theorem dC_mixQuarter_1 : decode cC_mixQuarter 1 = .ok (.getfield 13, 3) := by decide +kernel
theorem dC_mixQuarter_4 : decode cC_mixQuarter 4 = .ok (.iload_n 1, 1) := by decide +kernel
theorem dC_mixQuarter_5 : decode cC_mixQuarter 5 = .ok (.dup2, 1) := by decide +kernel
theorem dC_mixQuarter_6 : decode cC_mixQuarter 6 = .ok (.iaload, 1) := by decide +kernel
theorem dC_mixQuarter_7 : decode cC_mixQuarter 7 = .ok (.aload_n 0, 1) := by decide +kernel
theorem dC_mixQuarter_8 : decode cC_mixQuarter 8 = .ok (.getfield 13, 3) := by decide +kernel
theorem dC_mixQuarter_11 : decode cC_mixQuarter 11 = .ok (.iload_n 2, 1) := by decide +kernel
theorem dC_mixQuarter_12 : decode cC_mixQuarter 12 = .ok (.iaload, 1) := by decide +kernel
theorem dC_mixQuarter_13 : decode cC_mixQuarter 13 = .ok (.iadd, 1) := by decide +kernel
theorem dC_mixQuarter_14 : decode cC_mixQuarter 14 = .ok (.iastore, 1) := by decide +kernel
theorem dC_mixQuarter_15 : decode cC_mixQuarter 15 = .ok (.aload_n 0, 1) := by decide +kernel
theorem dC_mixQuarter_16 : decode cC_mixQuarter 16 = .ok (.getfield 13, 3) := by decide +kernel
theorem dC_mixQuarter_19 : decode cC_mixQuarter 19 = .ok (.iload 4, 2) := by decide +kernel
theorem dC_mixQuarter_21 : decode cC_mixQuarter 21 = .ok (.aload_n 0, 1) := by decide +kernel
theorem dC_mixQuarter_22 : decode cC_mixQuarter 22 = .ok (.getfield 13, 3) := by decide +kernel
theorem dC_mixQuarter_25 : decode cC_mixQuarter 25 = .ok (.iload 4, 2) := by decide +kernel
theorem dC_mixQuarter_27 : decode cC_mixQuarter 27 = .ok (.iaload, 1) := by decide +kernel
theorem dC_mixQuarter_28 : decode cC_mixQuarter 28 = .ok (.aload_n 0, 1) := by decide +kernel
theorem dC_mixQuarter_29 : decode cC_mixQuarter 29 = .ok (.getfield 13, 3) := by decide +kernel
theorem dC_mixQuarter_32 : decode cC_mixQuarter 32 = .ok (.iload_n 1, 1) := by decide +kernel
theorem dC_mixQuarter_33 : decode cC_mixQuarter 33 = .ok (.iaload, 1) := by decide +kernel
theorem dC_mixQuarter_34 : decode cC_mixQuarter 34 = .ok (.ixor, 1) := by decide +kernel
theorem dC_mixQuarter_35 : decode cC_mixQuarter 35 = .ok (.bipush 16, 2) := by decide +kernel
theorem dC_mixQuarter_37 : decode cC_mixQuarter 37 = .ok (.invokestatic 50, 3) := by decide +kernel
theorem dC_mixQuarter_40 : decode cC_mixQuarter 40 = .ok (.iastore, 1) := by decide +kernel
theorem dC_mixQuarter_41 : decode cC_mixQuarter 41 = .ok (.aload_n 0, 1) := by decide +kernel
theorem dC_mixQuarter_42 : decode cC_mixQuarter 42 = .ok (.getfield 13, 3) := by decide +kernel
theorem dC_mixQuarter_45 : decode cC_mixQuarter 45 = .ok (.iload_n 3, 1) := by decide +kernel
theorem dC_mixQuarter_46 : decode cC_mixQuarter 46 = .ok (.dup2, 1) := by decide +kernel
theorem dC_mixQuarter_47 : decode cC_mixQuarter 47 = .ok (.iaload, 1) := by decide +kernel
theorem dC_mixQuarter_48 : decode cC_mixQuarter 48 = .ok (.aload_n 0, 1) := by decide +kernel
theorem dC_mixQuarter_49 : decode cC_mixQuarter 49 = .ok (.getfield 13, 3) := by decide +kernel
theorem dC_mixQuarter_52 : decode cC_mixQuarter 52 = .ok (.iload 4, 2) := by decide +kernel
theorem dC_mixQuarter_54 : decode cC_mixQuarter 54 = .ok (.iaload, 1) := by decide +kernel
theorem dC_mixQuarter_55 : decode cC_mixQuarter 55 = .ok (.iadd, 1) := by decide +kernel
theorem dC_mixQuarter_56 : decode cC_mixQuarter 56 = .ok (.iastore, 1) := by decide +kernel
theorem dC_mixQuarter_57 : decode cC_mixQuarter 57 = .ok (.aload_n 0, 1) := by decide +kernel
theorem dC_mixQuarter_58 : decode cC_mixQuarter 58 = .ok (.getfield 13, 3) := by decide +kernel
theorem dC_mixQuarter_61 : decode cC_mixQuarter 61 = .ok (.iload_n 2, 1) := by decide +kernel
theorem dC_mixQuarter_62 : decode cC_mixQuarter 62 = .ok (.aload_n 0, 1) := by decide +kernel
theorem dC_mixQuarter_63 : decode cC_mixQuarter 63 = .ok (.getfield 13, 3) := by decide +kernel
theorem dC_mixQuarter_66 : decode cC_mixQuarter 66 = .ok (.iload_n 2, 1) := by decide +kernel
theorem dC_mixQuarter_67 : decode cC_mixQuarter 67 = .ok (.iaload, 1) := by decide +kernel
theorem dC_mixQuarter_68 : decode cC_mixQuarter 68 = .ok (.aload_n 0, 1) := by decide +kernel
theorem dC_mixQuarter_69 : decode cC_mixQuarter 69 = .ok (.getfield 13, 3) := by decide +kernel
theorem dC_mixQuarter_72 : decode cC_mixQuarter 72 = .ok (.iload_n 3, 1) := by decide +kernel
theorem dC_mixQuarter_73 : decode cC_mixQuarter 73 = .ok (.iaload, 1) := by decide +kernel
theorem dC_mixQuarter_74 : decode cC_mixQuarter 74 = .ok (.ixor, 1) := by decide +kernel
theorem dC_mixQuarter_75 : decode cC_mixQuarter 75 = .ok (.bipush 12, 2) := by decide +kernel
theorem dC_mixQuarter_77 : decode cC_mixQuarter 77 = .ok (.invokestatic 50, 3) := by decide +kernel
theorem dC_mixQuarter_80 : decode cC_mixQuarter 80 = .ok (.iastore, 1) := by decide +kernel
theorem dC_mixQuarter_81 : decode cC_mixQuarter 81 = .ok (.aload_n 0, 1) := by decide +kernel
theorem dC_mixQuarter_82 : decode cC_mixQuarter 82 = .ok (.getfield 13, 3) := by decide +kernel
theorem dC_mixQuarter_85 : decode cC_mixQuarter 85 = .ok (.iload_n 1, 1) := by decide +kernel
theorem dC_mixQuarter_86 : decode cC_mixQuarter 86 = .ok (.dup2, 1) := by decide +kernel
theorem dC_mixQuarter_87 : decode cC_mixQuarter 87 = .ok (.iaload, 1) := by decide +kernel
theorem dC_mixQuarter_88 : decode cC_mixQuarter 88 = .ok (.aload_n 0, 1) := by decide +kernel
theorem dC_mixQuarter_89 : decode cC_mixQuarter 89 = .ok (.getfield 13, 3) := by decide +kernel
theorem dC_mixQuarter_92 : decode cC_mixQuarter 92 = .ok (.iload_n 2, 1) := by decide +kernel
theorem dC_mixQuarter_93 : decode cC_mixQuarter 93 = .ok (.iaload, 1) := by decide +kernel
theorem dC_mixQuarter_94 : decode cC_mixQuarter 94 = .ok (.iadd, 1) := by decide +kernel
theorem dC_mixQuarter_95 : decode cC_mixQuarter 95 = .ok (.iastore, 1) := by decide +kernel
theorem dC_mixQuarter_96 : decode cC_mixQuarter 96 = .ok (.aload_n 0, 1) := by decide +kernel
theorem dC_mixQuarter_97 : decode cC_mixQuarter 97 = .ok (.getfield 13, 3) := by decide +kernel
theorem dC_mixQuarter_100 : decode cC_mixQuarter 100 = .ok (.iload 4, 2) := by decide +kernel
theorem dC_mixQuarter_102 : decode cC_mixQuarter 102 = .ok (.aload_n 0, 1) := by decide +kernel
theorem dC_mixQuarter_103 : decode cC_mixQuarter 103 = .ok (.getfield 13, 3) := by decide +kernel
theorem dC_mixQuarter_106 : decode cC_mixQuarter 106 = .ok (.iload 4, 2) := by decide +kernel
theorem dC_mixQuarter_108 : decode cC_mixQuarter 108 = .ok (.iaload, 1) := by decide +kernel
theorem dC_mixQuarter_109 : decode cC_mixQuarter 109 = .ok (.aload_n 0, 1) := by decide +kernel
theorem dC_mixQuarter_110 : decode cC_mixQuarter 110 = .ok (.getfield 13, 3) := by decide +kernel
theorem dC_mixQuarter_113 : decode cC_mixQuarter 113 = .ok (.iload_n 1, 1) := by decide +kernel
theorem dC_mixQuarter_114 : decode cC_mixQuarter 114 = .ok (.iaload, 1) := by decide +kernel
theorem dC_mixQuarter_115 : decode cC_mixQuarter 115 = .ok (.ixor, 1) := by decide +kernel
theorem dC_mixQuarter_116 : decode cC_mixQuarter 116 = .ok (.bipush 8, 2) := by decide +kernel
theorem dC_mixQuarter_118 : decode cC_mixQuarter 118 = .ok (.invokestatic 50, 3) := by decide +kernel
theorem dC_mixQuarter_121 : decode cC_mixQuarter 121 = .ok (.iastore, 1) := by decide +kernel
theorem dC_mixQuarter_122 : decode cC_mixQuarter 122 = .ok (.aload_n 0, 1) := by decide +kernel
theorem dC_mixQuarter_123 : decode cC_mixQuarter 123 = .ok (.getfield 13, 3) := by decide +kernel
theorem dC_mixQuarter_126 : decode cC_mixQuarter 126 = .ok (.iload_n 3, 1) := by decide +kernel
theorem dC_mixQuarter_127 : decode cC_mixQuarter 127 = .ok (.dup2, 1) := by decide +kernel
theorem dC_mixQuarter_128 : decode cC_mixQuarter 128 = .ok (.iaload, 1) := by decide +kernel
theorem dC_mixQuarter_129 : decode cC_mixQuarter 129 = .ok (.aload_n 0, 1) := by decide +kernel
theorem dC_mixQuarter_130 : decode cC_mixQuarter 130 = .ok (.getfield 13, 3) := by decide +kernel
theorem dC_mixQuarter_133 : decode cC_mixQuarter 133 = .ok (.iload 4, 2) := by decide +kernel
theorem dC_mixQuarter_135 : decode cC_mixQuarter 135 = .ok (.iaload, 1) := by decide +kernel
theorem dC_mixQuarter_136 : decode cC_mixQuarter 136 = .ok (.iadd, 1) := by decide +kernel
theorem dC_mixQuarter_137 : decode cC_mixQuarter 137 = .ok (.iastore, 1) := by decide +kernel
theorem dC_mixQuarter_138 : decode cC_mixQuarter 138 = .ok (.aload_n 0, 1) := by decide +kernel
theorem dC_mixQuarter_139 : decode cC_mixQuarter 139 = .ok (.getfield 13, 3) := by decide +kernel
theorem dC_mixQuarter_142 : decode cC_mixQuarter 142 = .ok (.iload_n 2, 1) := by decide +kernel
theorem dC_mixQuarter_143 : decode cC_mixQuarter 143 = .ok (.aload_n 0, 1) := by decide +kernel
theorem dC_mixQuarter_144 : decode cC_mixQuarter 144 = .ok (.getfield 13, 3) := by decide +kernel
theorem dC_mixQuarter_147 : decode cC_mixQuarter 147 = .ok (.iload_n 2, 1) := by decide +kernel
theorem dC_mixQuarter_148 : decode cC_mixQuarter 148 = .ok (.iaload, 1) := by decide +kernel
theorem dC_mixQuarter_149 : decode cC_mixQuarter 149 = .ok (.aload_n 0, 1) := by decide +kernel
theorem dC_mixQuarter_150 : decode cC_mixQuarter 150 = .ok (.getfield 13, 3) := by decide +kernel
theorem dC_mixQuarter_153 : decode cC_mixQuarter 153 = .ok (.iload_n 3, 1) := by decide +kernel
theorem dC_mixQuarter_154 : decode cC_mixQuarter 154 = .ok (.iaload, 1) := by decide +kernel
theorem dC_mixQuarter_155 : decode cC_mixQuarter 155 = .ok (.ixor, 1) := by decide +kernel
theorem dC_mixQuarter_156 : decode cC_mixQuarter 156 = .ok (.bipush 7, 2) := by decide +kernel
theorem dC_mixQuarter_158 : decode cC_mixQuarter 158 = .ok (.invokestatic 50, 3) := by decide +kernel
theorem dC_mixQuarter_161 : decode cC_mixQuarter 161 = .ok (.iastore, 1) := by decide +kernel
theorem dC_mixQuarter_162 : decode cC_mixQuarter 162 = .ok (.return_, 1) := by decide +kernel
theorem dP_init_0 : decode cP_init 0 = .ok (.aload_n 0, 1) := by decide +kernel
theorem dP_init_1 : decode cP_init 1 = .ok (.invokespecial 1, 3) := by decide +kernel
theorem dP_init_4 : decode cP_init 4 = .ok (.aload_n 0, 1) := by decide +kernel
theorem dP_init_5 : decode cP_init 5 = .ok (.iconst 5, 1) := by decide +kernel
theorem dP_init_6 : decode cP_init 6 = .ok (.newarray .long, 2) := by decide +kernel
theorem dP_init_8 : decode cP_init 8 = .ok (.putfield 9, 3) := by decide +kernel
theorem dP_init_11 : decode cP_init 11 = .ok (.aload_n 0, 1) := by decide +kernel
theorem dP_init_12 : decode cP_init 12 = .ok (.iconst 5, 1) := by decide +kernel
theorem dP_init_13 : decode cP_init 13 = .ok (.newarray .long, 2) := by decide +kernel
theorem dP_init_15 : decode cP_init 15 = .ok (.putfield 13, 3) := by decide +kernel
theorem dP_init_18 : decode cP_init 18 = .ok (.aload_n 0, 1) := by decide +kernel
theorem dP_init_19 : decode cP_init 19 = .ok (.iconst 5, 1) := by decide +kernel
theorem dP_init_20 : decode cP_init 20 = .ok (.newarray .long, 2) := by decide +kernel
theorem dP_init_22 : decode cP_init 22 = .ok (.putfield 16, 3) := by decide +kernel
theorem dP_init_25 : decode cP_init 25 = .ok (.aload_n 0, 1) := by decide +kernel
theorem dP_init_26 : decode cP_init 26 = .ok (.iconst 4, 1) := by decide +kernel
theorem dP_init_27 : decode cP_init 27 = .ok (.newarray .long, 2) := by decide +kernel
theorem dP_init_29 : decode cP_init 29 = .ok (.putfield 19, 3) := by decide +kernel
theorem dP_init_32 : decode cP_init 32 = .ok (.aload_n 0, 1) := by decide +kernel
theorem dP_init_33 : decode cP_init 33 = .ok (.iconst 4, 1) := by decide +kernel
theorem dP_init_34 : decode cP_init 34 = .ok (.newarray .int, 2) := by decide +kernel
theorem dP_init_36 : decode cP_init 36 = .ok (.putfield 22, 3) := by decide +kernel
theorem dP_init_39 : decode cP_init 39 = .ok (.aload_n 0, 1) := by decide +kernel
theorem dP_init_40 : decode cP_init 40 = .ok (.bipush 17, 2) := by decide +kernel
theorem dP_init_42 : decode cP_init 42 = .ok (.newarray .byte, 2) := by decide +kernel
theorem dP_init_44 : decode cP_init 44 = .ok (.putfield 26, 3) := by decide +kernel
theorem dP_init_47 : decode cP_init 47 = .ok (.return_, 1) := by decide +kernel
theorem dP_start_0 : decode cP_start 0 = .ok (.aload_n 1, 1) := by decide +kernel
theorem dP_start_1 : decode cP_start 1 = .ok (.iconst 0, 1) := by decide +kernel
theorem dP_start_2 : decode cP_start 2 = .ok (.aload_n 0, 1) := by decide +kernel
theorem dP_start_3 : decode cP_start 3 = .ok (.getfield 26, 3) := by decide +kernel
theorem dP_start_6 : decode cP_start 6 = .ok (.iconst 0, 1) := by decide +kernel
theorem dP_start_7 : decode cP_start 7 = .ok (.bipush 16, 2) := by decide +kernel
theorem dP_start_9 : decode cP_start 9 = .ok (.invokestatic 30, 3) := by decide +kernel
theorem dP_start_12 : decode cP_start 12 = .ok (.aload_n 0, 1) := by decide +kernel
theorem dP_start_13 : decode cP_start 13 = .ok (.getfield 26, 3) := by decide +kernel
theorem dP_start_16 : decode cP_start 16 = .ok (.bipush 16, 2) := by decide +kernel
theorem dP_start_18 : decode cP_start 18 = .ok (.iconst 0, 1) := by decide +kernel
theorem dP_start_19 : decode cP_start 19 = .ok (.bastore, 1) := by decide +kernel
theorem dP_start_20 : decode cP_start 20 = .ok (.aload_n 0, 1) := by decide +kernel
theorem dP_start_21 : decode cP_start 21 = .ok (.invokevirtual 36, 3) := by decide +kernel
theorem dP_start_24 : decode cP_start 24 = .ok (.iconst 0, 1) := by decide +kernel
theorem dP_start_25 : decode cP_start 25 = .ok (.istore_n 2, 1) := by decide +kernel
theorem dP_start_26 : decode cP_start 26 = .ok (.iload_n 2, 1) := by decide +kernel
theorem dP_start_27 : decode cP_start 27 = .ok (.iconst 5, 1) := by decide +kernel
theorem dP_start_28 : decode cP_start 28 = .ok (.if_icmp .ge 27, 3) := by decide +kernel
theorem dP_start_31 : decode cP_start 31 = .ok (.aload_n 0, 1) := by decide +kernel
theorem dP_start_32 : decode cP_start 32 = .ok (.getfield 9, 3) := by decide +kernel
theorem dP_start_35 : decode cP_start 35 = .ok (.iload_n 2, 1) := by decide +kernel
theorem dP_start_36 : decode cP_start 36 = .ok (.aload_n 0, 1) := by decide +kernel
theorem dP_start_37 : decode cP_start 37 = .ok (.iload_n 2, 1) := by decide +kernel
theorem dP_start_38 : decode cP_start 38 = .ok (.invokevirtual 39, 3) := by decide +kernel
theorem dP_start_41 : decode cP_start 41 = .ok (.lastore, 1) := by decide +kernel
theorem dP_start_42 : decode cP_start 42 = .ok (.aload_n 0, 1) := by decide +kernel
theorem dP_start_43 : decode cP_start 43 = .ok (.getfield 13, 3) := by decide +kernel
theorem dP_start_46 : decode cP_start 46 = .ok (.iload_n 2, 1) := by decide +kernel
theorem dP_start_47 : decode cP_start 47 = .ok (.lconst 0, 1) := by decide +kernel
theorem dP_start_48 : decode cP_start 48 = .ok (.lastore, 1) := by decide +kernel
theorem dP_start_49 : decode cP_start 49 = .ok (.iinc 2 1, 3) := by decide +kernel
theorem dP_start_52 : decode cP_start 52 = .ok (.goto (-26), 3) := by decide +kernel
theorem dP_start_55 : decode cP_start 55 = .ok (.iconst 0, 1) := by decide +kernel
theorem dP_start_56 : decode cP_start 56 = .ok (.istore_n 2, 1) := by decide +kernel
theorem dP_start_57 : decode cP_start 57 = .ok (.iload_n 2, 1) := by decide +kernel
theorem dP_start_58 : decode cP_start 58 = .ok (.iconst 4, 1) := by decide +kernel
theorem dP_start_59 : decode cP_start 59 = .ok (.if_icmp .ge 25, 3) := by decide +kernel
theorem dP_start_62 : decode cP_start 62 = .ok (.aload_n 0, 1) := by decide +kernel
theorem dP_start_63 : decode cP_start 63 = .ok (.getfield 22, 3) := by decide +kernel
theorem dP_start_66 : decode cP_start 66 = .ok (.iload_n 2, 1) := by decide +kernel
theorem dP_start_67 : decode cP_start 67 = .ok (.aload_n 1, 1) := by decide +kernel
theorem dP_start_68 : decode cP_start 68 = .ok (.bipush 16, 2) := by decide +kernel
theorem dP_start_70 : decode cP_start 70 = .ok (.iconst 4, 1) := by decide +kernel
theorem dP_start_71 : decode cP_start 71 = .ok (.iload_n 2, 1) := by decide +kernel
theorem dP_start_72 : decode cP_start 72 = .ok (.imul, 1) := by decide +kernel
theorem dP_start_73 : decode cP_start 73 = .ok (.iadd, 1) := by decide +kernel
theorem dP_start_74 : decode cP_start 74 = .ok (.invokestatic 43, 3) := by decide +kernel
theorem dP_start_77 : decode cP_start 77 = .ok (.iastore, 1) := by decide +kernel
theorem dP_start_78 : decode cP_start 78 = .ok (.iinc 2 1, 3) := by decide +kernel
theorem dP_start_81 : decode cP_start 81 = .ok (.goto (-24), 3) := by decide +kernel
theorem dP_start_84 : decode cP_start 84 = .ok (.return_, 1) := by decide +kernel
theorem dP_add_0 : decode cP_add 0 = .ok (.iconst 0, 1) := by decide +kernel
theorem dP_add_1 : decode cP_add 1 = .ok (.istore 4, 2) := by decide +kernel
theorem dP_add_3 : decode cP_add 3 = .ok (.iload 4, 2) := by decide +kernel
theorem dP_add_5 : decode cP_add 5 = .ok (.iload_n 3, 1) := by decide +kernel
theorem dP_add_6 : decode cP_add 6 = .ok (.if_icmp .ge 33, 3) := by decide +kernel
theorem dP_add_9 : decode cP_add 9 = .ok (.bipush 16, 2) := by decide +kernel
theorem dP_add_11 : decode cP_add 11 = .ok (.iload_n 3, 1) := by decide +kernel
theorem dP_add_12 : decode cP_add 12 = .ok (.iload 4, 2) := by decide +kernel
theorem dP_add_14 : decode cP_add 14 = .ok (.isub, 1) := by decide +kernel
theorem dP_add_15 : decode cP_add 15 = .ok (.invokestatic 49, 3) := by decide +kernel
theorem dP_add_18 : decode cP_add 18 = .ok (.istore 5, 2) := by decide +kernel
theorem dP_add_20 : decode cP_add 20 = .ok (.aload_n 0, 1) := by decide +kernel
theorem dP_add_21 : decode cP_add 21 = .ok (.aload_n 1, 1) := by decide +kernel
theorem dP_add_22 : decode cP_add 22 = .ok (.iload_n 2, 1) := by decide +kernel
theorem dP_add_23 : decode cP_add 23 = .ok (.iload 4, 2) := by decide +kernel
theorem dP_add_25 : decode cP_add 25 = .ok (.iadd, 1) := by decide +kernel
theorem dP_add_26 : decode cP_add 26 = .ok (.iload 5, 2) := by decide +kernel
theorem dP_add_28 : decode cP_add 28 = .ok (.iload 5, 2) := by decide +kernel
theorem dP_add_30 : decode cP_add 30 = .ok (.invokevirtual 55, 3) := by decide +kernel
theorem dP_add_33 : decode cP_add 33 = .ok (.iinc 4 16, 3) := by decide +kernel
theorem dP_add_36 : decode cP_add 36 = .ok (.goto (-33), 3) := by decide +kernel
theorem dP_add_39 : decode cP_add 39 = .ok (.return_, 1) := by decide +kernel
theorem dP_addPadded_0 : decode cP_addPadded 0 = .ok (.iconst 0, 1) := by decide +kernel
theorem dP_addPadded_1 : decode cP_addPadded 1 = .ok (.istore 4, 2) := by decide +kernel
theorem dP_addPadded_3 : decode cP_addPadded 3 = .ok (.iload 4, 2) := by decide +kernel
theorem dP_addPadded_5 : decode cP_addPadded 5 = .ok (.iload_n 3, 1) := by decide +kernel
theorem dP_addPadded_6 : decode cP_addPadded 6 = .ok (.if_icmp .ge 29, 3) := by decide +kernel
theorem dP_addPadded_9 : decode cP_addPadded 9 = .ok (.aload_n 0, 1) := by decide +kernel
theorem dP_addPadded_10 : decode cP_addPadded 10 = .ok (.aload_n 1, 1) := by decide +kernel
theorem dP_addPadded_11 : decode cP_addPadded 11 = .ok (.iload_n 2, 1) := by decide +kernel
theorem dP_addPadded_12 : decode cP_addPadded 12 = .ok (.iload 4, 2) := by decide +kernel
theorem dP_addPadded_14 : decode cP_addPadded 14 = .ok (.iadd, 1) := by decide +kernel
theorem dP_addPadded_15 : decode cP_addPadded 15 = .ok (.bipush 16, 2) := by decide +kernel
theorem dP_addPadded_17 : decode cP_addPadded 17 = .ok (.iload_n 3, 1) := by decide +kernel
theorem dP_addPadded_18 : decode cP_addPadded 18 = .ok (.iload 4, 2) := by decide +kernel
theorem dP_addPadded_20 : decode cP_addPadded 20 = .ok (.isub, 1) := by decide +kernel
theorem dP_addPadded_21 : decode cP_addPadded 21 = .ok (.invokestatic 49, 3) := by decide +kernel
theorem dP_addPadded_24 : decode cP_addPadded 24 = .ok (.bipush 16, 2) := by decide +kernel
theorem dP_addPadded_26 : decode cP_addPadded 26 = .ok (.invokevirtual 55, 3) := by decide +kernel
theorem dP_addPadded_29 : decode cP_addPadded 29 = .ok (.iinc 4 16, 3) := by decide +kernel
theorem dP_addPadded_32 : decode cP_addPadded 32 = .ok (.goto (-29), 3) := by decide +kernel
theorem dP_addPadded_35 : decode cP_addPadded 35 = .ok (.return_, 1) := by decide +kernel
theorem dP_finish_0 : decode cP_finish 0 = .ok (.aload_n 0, 1) := by decide +kernel
theorem dP_finish_1 : decode cP_finish 1 = .ok (.invokevirtual 59, 3) := by decide +kernel
theorem dP_finish_4 : decode cP_finish 4 = .ok (.aload_n 0, 1) := by decide +kernel
theorem dP_finish_5 : decode cP_finish 5 = .ok (.invokevirtual 62, 3) := by decide +kernel
theorem dP_finish_8 : decode cP_finish 8 = .ok (.aload_n 0, 1) := by decide +kernel
theorem dP_finish_9 : decode cP_finish 9 = .ok (.getfield 19, 3) := by decide +kernel
theorem dP_finish_12 : decode cP_finish 12 = .ok (.iconst 0, 1) := by decide +kernel
theorem dP_finish_13 : decode cP_finish 13 = .ok (.aload_n 0, 1) := by decide +kernel
theorem dP_finish_14 : decode cP_finish 14 = .ok (.getfield 13, 3) := by decide +kernel
theorem dP_finish_17 : decode cP_finish 17 = .ok (.iconst 0, 1) := by decide +kernel
theorem dP_finish_18 : decode cP_finish 18 = .ok (.laload, 1) := by decide +kernel
theorem dP_finish_19 : decode cP_finish 19 = .ok (.aload_n 0, 1) := by decide +kernel
theorem dP_finish_20 : decode cP_finish 20 = .ok (.getfield 13, 3) := by decide +kernel
theorem dP_finish_23 : decode cP_finish 23 = .ok (.iconst 1, 1) := by decide +kernel
theorem dP_finish_24 : decode cP_finish 24 = .ok (.laload, 1) := by decide +kernel
theorem dP_finish_25 : decode cP_finish 25 = .ok (.bipush 26, 2) := by decide +kernel
theorem dP_finish_27 : decode cP_finish 27 = .ok (.lshl, 1) := by decide +kernel
theorem dP_finish_28 : decode cP_finish 28 = .ok (.lor, 1) := by decide +kernel
theorem dP_finish_29 : decode cP_finish 29 = .ok (.lastore, 1) := by decide +kernel
theorem dP_finish_30 : decode cP_finish 30 = .ok (.aload_n 0, 1) := by decide +kernel
theorem dP_finish_31 : decode cP_finish 31 = .ok (.getfield 19, 3) := by decide +kernel
theorem dP_finish_34 : decode cP_finish 34 = .ok (.iconst 1, 1) := by decide +kernel
theorem dP_finish_35 : decode cP_finish 35 = .ok (.aload_n 0, 1) := by decide +kernel
theorem dP_finish_36 : decode cP_finish 36 = .ok (.getfield 13, 3) := by decide +kernel
theorem dP_finish_39 : decode cP_finish 39 = .ok (.iconst 1, 1) := by decide +kernel
theorem dP_finish_40 : decode cP_finish 40 = .ok (.laload, 1) := by decide +kernel
theorem dP_finish_41 : decode cP_finish 41 = .ok (.bipush 6, 2) := by decide +kernel
theorem dP_finish_43 : decode cP_finish 43 = .ok (.lushr, 1) := by decide +kernel
theorem dP_finish_44 : decode cP_finish 44 = .ok (.aload_n 0, 1) := by decide +kernel
theorem dP_finish_45 : decode cP_finish 45 = .ok (.getfield 13, 3) := by decide +kernel
theorem dP_finish_48 : decode cP_finish 48 = .ok (.iconst 2, 1) := by decide +kernel
theorem dP_finish_49 : decode cP_finish 49 = .ok (.laload, 1) := by decide +kernel
theorem dP_finish_50 : decode cP_finish 50 = .ok (.bipush 20, 2) := by decide +kernel
theorem dP_finish_52 : decode cP_finish 52 = .ok (.lshl, 1) := by decide +kernel
theorem dP_finish_53 : decode cP_finish 53 = .ok (.lor, 1) := by decide +kernel
theorem dP_finish_54 : decode cP_finish 54 = .ok (.lastore, 1) := by decide +kernel
theorem dP_finish_55 : decode cP_finish 55 = .ok (.aload_n 0, 1) := by decide +kernel
theorem dP_finish_56 : decode cP_finish 56 = .ok (.getfield 19, 3) := by decide +kernel
theorem dP_finish_59 : decode cP_finish 59 = .ok (.iconst 2, 1) := by decide +kernel
theorem dP_finish_60 : decode cP_finish 60 = .ok (.aload_n 0, 1) := by decide +kernel
theorem dP_finish_61 : decode cP_finish 61 = .ok (.getfield 13, 3) := by decide +kernel
theorem dP_finish_64 : decode cP_finish 64 = .ok (.iconst 2, 1) := by decide +kernel
theorem dP_finish_65 : decode cP_finish 65 = .ok (.laload, 1) := by decide +kernel
theorem dP_finish_66 : decode cP_finish 66 = .ok (.bipush 12, 2) := by decide +kernel
theorem dP_finish_68 : decode cP_finish 68 = .ok (.lushr, 1) := by decide +kernel
theorem dP_finish_69 : decode cP_finish 69 = .ok (.aload_n 0, 1) := by decide +kernel
theorem dP_finish_70 : decode cP_finish 70 = .ok (.getfield 13, 3) := by decide +kernel
theorem dP_finish_73 : decode cP_finish 73 = .ok (.iconst 3, 1) := by decide +kernel
theorem dP_finish_74 : decode cP_finish 74 = .ok (.laload, 1) := by decide +kernel
theorem dP_finish_75 : decode cP_finish 75 = .ok (.bipush 14, 2) := by decide +kernel
theorem dP_finish_77 : decode cP_finish 77 = .ok (.lshl, 1) := by decide +kernel
theorem dP_finish_78 : decode cP_finish 78 = .ok (.lor, 1) := by decide +kernel
theorem dP_finish_79 : decode cP_finish 79 = .ok (.lastore, 1) := by decide +kernel
theorem dP_finish_80 : decode cP_finish 80 = .ok (.aload_n 0, 1) := by decide +kernel
theorem dP_finish_81 : decode cP_finish 81 = .ok (.getfield 19, 3) := by decide +kernel
theorem dP_finish_84 : decode cP_finish 84 = .ok (.iconst 3, 1) := by decide +kernel
theorem dP_finish_85 : decode cP_finish 85 = .ok (.aload_n 0, 1) := by decide +kernel
theorem dP_finish_86 : decode cP_finish 86 = .ok (.getfield 13, 3) := by decide +kernel
theorem dP_finish_89 : decode cP_finish 89 = .ok (.iconst 3, 1) := by decide +kernel
theorem dP_finish_90 : decode cP_finish 90 = .ok (.laload, 1) := by decide +kernel
theorem dP_finish_91 : decode cP_finish 91 = .ok (.bipush 18, 2) := by decide +kernel
theorem dP_finish_93 : decode cP_finish 93 = .ok (.lushr, 1) := by decide +kernel
theorem dP_finish_94 : decode cP_finish 94 = .ok (.aload_n 0, 1) := by decide +kernel
theorem dP_finish_95 : decode cP_finish 95 = .ok (.getfield 13, 3) := by decide +kernel
theorem dP_finish_98 : decode cP_finish 98 = .ok (.iconst 4, 1) := by decide +kernel
theorem dP_finish_99 : decode cP_finish 99 = .ok (.laload, 1) := by decide +kernel
theorem dP_finish_100 : decode cP_finish 100 = .ok (.bipush 8, 2) := by decide +kernel
theorem dP_finish_102 : decode cP_finish 102 = .ok (.lshl, 1) := by decide +kernel
theorem dP_finish_103 : decode cP_finish 103 = .ok (.lor, 1) := by decide +kernel
theorem dP_finish_104 : decode cP_finish 104 = .ok (.lastore, 1) := by decide +kernel
theorem dP_finish_105 : decode cP_finish 105 = .ok (.lconst 0, 1) := by decide +kernel
theorem dP_finish_106 : decode cP_finish 106 = .ok (.lstore_n 3, 1) := by decide +kernel
theorem dP_finish_107 : decode cP_finish 107 = .ok (.iconst 0, 1) := by decide +kernel
theorem dP_finish_108 : decode cP_finish 108 = .ok (.istore 5, 2) := by decide +kernel
theorem dP_finish_110 : decode cP_finish 110 = .ok (.iload 5, 2) := by decide +kernel
theorem dP_finish_112 : decode cP_finish 112 = .ok (.iconst 4, 1) := by decide +kernel
theorem dP_finish_113 : decode cP_finish 113 = .ok (.if_icmp .ge 53, 3) := by decide +kernel
theorem dP_finish_116 : decode cP_finish 116 = .ok (.lload_n 3, 1) := by decide +kernel
theorem dP_finish_117 : decode cP_finish 117 = .ok (.aload_n 0, 1) := by decide +kernel
theorem dP_finish_118 : decode cP_finish 118 = .ok (.getfield 19, 3) := by decide +kernel
theorem dP_finish_121 : decode cP_finish 121 = .ok (.iload 5, 2) := by decide +kernel
theorem dP_finish_123 : decode cP_finish 123 = .ok (.laload, 1) := by decide +kernel
theorem dP_finish_124 : decode cP_finish 124 = .ok (.ldc2_w 65, 3) := by decide +kernel
theorem dP_finish_127 : decode cP_finish 127 = .ok (.land, 1) := by decide +kernel
theorem dP_finish_128 : decode cP_finish 128 = .ok (.aload_n 0, 1) := by decide +kernel
theorem dP_finish_129 : decode cP_finish 129 = .ok (.getfield 22, 3) := by decide +kernel
theorem dP_finish_132 : decode cP_finish 132 = .ok (.iload 5, 2) := by decide +kernel
theorem dP_finish_134 : decode cP_finish 134 = .ok (.iaload, 1) := by decide +kernel
theorem dP_finish_135 : decode cP_finish 135 = .ok (.i2l, 1) := by decide +kernel
theorem dP_finish_136 : decode cP_finish 136 = .ok (.ldc2_w 65, 3) := by decide +kernel
theorem dP_finish_139 : decode cP_finish 139 = .ok (.land, 1) := by decide +kernel
theorem dP_finish_140 : decode cP_finish 140 = .ok (.ladd, 1) := by decide +kernel
theorem dP_finish_141 : decode cP_finish 141 = .ok (.ladd, 1) := by decide +kernel
theorem dP_finish_142 : decode cP_finish 142 = .ok (.lstore_n 3, 1) := by decide +kernel
theorem dP_finish_143 : decode cP_finish 143 = .ok (.aload_n 1, 1) := by decide +kernel
theorem dP_finish_144 : decode cP_finish 144 = .ok (.iload_n 2, 1) := by decide +kernel
theorem dP_finish_145 : decode cP_finish 145 = .ok (.iconst 4, 1) := by decide +kernel
theorem dP_finish_146 : decode cP_finish 146 = .ok (.iload 5, 2) := by decide +kernel
theorem dP_finish_148 : decode cP_finish 148 = .ok (.imul, 1) := by decide +kernel
theorem dP_finish_149 : decode cP_finish 149 = .ok (.iadd, 1) := by decide +kernel
theorem dP_finish_150 : decode cP_finish 150 = .ok (.lload_n 3, 1) := by decide +kernel
theorem dP_finish_151 : decode cP_finish 151 = .ok (.l2i, 1) := by decide +kernel
theorem dP_finish_152 : decode cP_finish 152 = .ok (.invokestatic 67, 3) := by decide +kernel
theorem dP_finish_155 : decode cP_finish 155 = .ok (.lload_n 3, 1) := by decide +kernel
theorem dP_finish_156 : decode cP_finish 156 = .ok (.bipush 32, 2) := by decide +kernel
theorem dP_finish_158 : decode cP_finish 158 = .ok (.lushr, 1) := by decide +kernel
theorem dP_finish_159 : decode cP_finish 159 = .ok (.lstore_n 3, 1) := by decide +kernel
theorem dP_finish_160 : decode cP_finish 160 = .ok (.iinc 5 1, 3) := by decide +kernel
theorem dP_finish_163 : decode cP_finish 163 = .ok (.goto (-53), 3) := by decide +kernel
theorem dP_finish_166 : decode cP_finish 166 = .ok (.return_, 1) := by decide +kernel
theorem dP_clampBlock_0 : decode cP_clampBlock 0 = .ok (.iconst 3, 1) := by decide +kernel
theorem dP_clampBlock_1 : decode cP_clampBlock 1 = .ok (.istore_n 1, 1) := by decide +kernel
theorem dP_clampBlock_2 : decode cP_clampBlock 2 = .ok (.iload_n 1, 1) := by decide +kernel
theorem dP_clampBlock_3 : decode cP_clampBlock 3 = .ok (.bipush 16, 2) := by decide +kernel
theorem dP_clampBlock_5 : decode cP_clampBlock 5 = .ok (.if_icmp .ge 21, 3) := by decide +kernel
theorem dP_clampBlock_8 : decode cP_clampBlock 8 = .ok (.aload_n 0, 1) := by decide +kernel
theorem dP_clampBlock_9 : decode cP_clampBlock 9 = .ok (.getfield 26, 3) := by decide +kernel
theorem dP_clampBlock_12 : decode cP_clampBlock 12 = .ok (.iload_n 1, 1) := by decide +kernel
theorem dP_clampBlock_13 : decode cP_clampBlock 13 = .ok (.dup2, 1) := by decide +kernel
theorem dP_clampBlock_14 : decode cP_clampBlock 14 = .ok (.baload, 1) := by decide +kernel
theorem dP_clampBlock_15 : decode cP_clampBlock 15 = .ok (.bipush 15, 2) := by decide +kernel
theorem dP_clampBlock_17 : decode cP_clampBlock 17 = .ok (.iand, 1) := by decide +kernel
theorem dP_clampBlock_18 : decode cP_clampBlock 18 = .ok (.i2b, 1) := by decide +kernel
theorem dP_clampBlock_19 : decode cP_clampBlock 19 = .ok (.bastore, 1) := by decide +kernel
theorem dP_clampBlock_20 : decode cP_clampBlock 20 = .ok (.iinc 1 4, 3) := by decide +kernel
theorem dP_clampBlock_23 : decode cP_clampBlock 23 = .ok (.goto (-21), 3) := by decide +kernel
theorem dP_clampBlock_26 : decode cP_clampBlock 26 = .ok (.iconst 4, 1) := by decide +kernel
theorem dP_clampBlock_27 : decode cP_clampBlock 27 = .ok (.istore_n 1, 1) := by decide +kernel
theorem dP_clampBlock_28 : decode cP_clampBlock 28 = .ok (.iload_n 1, 1) := by decide +kernel
theorem dP_clampBlock_29 : decode cP_clampBlock 29 = .ok (.bipush 16, 2) := by decide +kernel
theorem dP_clampBlock_31 : decode cP_clampBlock 31 = .ok (.if_icmp .ge 21, 3) := by decide +kernel
theorem dP_clampBlock_34 : decode cP_clampBlock 34 = .ok (.aload_n 0, 1) := by decide +kernel
theorem dP_clampBlock_35 : decode cP_clampBlock 35 = .ok (.getfield 26, 3) := by decide +kernel
theorem dP_clampBlock_38 : decode cP_clampBlock 38 = .ok (.iload_n 1, 1) := by decide +kernel
theorem dP_clampBlock_39 : decode cP_clampBlock 39 = .ok (.dup2, 1) := by decide +kernel
theorem dP_clampBlock_40 : decode cP_clampBlock 40 = .ok (.baload, 1) := by decide +kernel
theorem dP_clampBlock_41 : decode cP_clampBlock 41 = .ok (.bipush (-4), 2) := by decide +kernel
theorem dP_clampBlock_43 : decode cP_clampBlock 43 = .ok (.iand, 1) := by decide +kernel
theorem dP_clampBlock_44 : decode cP_clampBlock 44 = .ok (.i2b, 1) := by decide +kernel
theorem dP_clampBlock_45 : decode cP_clampBlock 45 = .ok (.bastore, 1) := by decide +kernel
theorem dP_clampBlock_46 : decode cP_clampBlock 46 = .ok (.iinc 1 4, 3) := by decide +kernel
theorem dP_clampBlock_49 : decode cP_clampBlock 49 = .ok (.goto (-21), 3) := by decide +kernel
theorem dP_clampBlock_52 : decode cP_clampBlock 52 = .ok (.return_, 1) := by decide +kernel
theorem dP_blockPart_0 : decode cP_blockPart 0 = .ok (.bipush 26, 2) := by decide +kernel
theorem dP_blockPart_2 : decode cP_blockPart 2 = .ok (.iload_n 1, 1) := by decide +kernel
theorem dP_blockPart_3 : decode cP_blockPart 3 = .ok (.imul, 1) := by decide +kernel
theorem dP_blockPart_4 : decode cP_blockPart 4 = .ok (.istore_n 2, 1) := by decide +kernel
theorem dP_blockPart_5 : decode cP_blockPart 5 = .ok (.aload_n 0, 1) := by decide +kernel
theorem dP_blockPart_6 : decode cP_blockPart 6 = .ok (.getfield 26, 3) := by decide +kernel
theorem dP_blockPart_9 : decode cP_blockPart 9 = .ok (.iload_n 2, 1) := by decide +kernel
theorem dP_blockPart_10 : decode cP_blockPart 10 = .ok (.iconst 3, 1) := by decide +kernel
theorem dP_blockPart_11 : decode cP_blockPart 11 = .ok (.iushr, 1) := by decide +kernel
theorem dP_blockPart_12 : decode cP_blockPart 12 = .ok (.invokestatic 43, 3) := by decide +kernel
theorem dP_blockPart_15 : decode cP_blockPart 15 = .ok (.istore_n 3, 1) := by decide +kernel
theorem dP_blockPart_16 : decode cP_blockPart 16 = .ok (.iload_n 3, 1) := by decide +kernel
theorem dP_blockPart_17 : decode cP_blockPart 17 = .ok (.i2l, 1) := by decide +kernel
theorem dP_blockPart_18 : decode cP_blockPart 18 = .ok (.ldc2_w 65, 3) := by decide +kernel
theorem dP_blockPart_21 : decode cP_blockPart 21 = .ok (.land, 1) := by decide +kernel
theorem dP_blockPart_22 : decode cP_blockPart 22 = .ok (.iload_n 2, 1) := by decide +kernel
theorem dP_blockPart_23 : decode cP_blockPart 23 = .ok (.bipush 7, 2) := by decide +kernel
theorem dP_blockPart_25 : decode cP_blockPart 25 = .ok (.iand, 1) := by decide +kernel
theorem dP_blockPart_26 : decode cP_blockPart 26 = .ok (.lushr, 1) := by decide +kernel
theorem dP_blockPart_27 : decode cP_blockPart 27 = .ok (.ldc2_w 71, 3) := by decide +kernel
theorem dP_blockPart_30 : decode cP_blockPart 30 = .ok (.land, 1) := by decide +kernel
theorem dP_blockPart_31 : decode cP_blockPart 31 = .ok (.lreturn, 1) := by decide +kernel
theorem dP_addBlock_0 : decode cP_addBlock 0 = .ok (.aload_n 0, 1) := by decide +kernel
theorem dP_addBlock_1 : decode cP_addBlock 1 = .ok (.getfield 26, 3) := by decide +kernel
theorem dP_addBlock_4 : decode cP_addBlock 4 = .ok (.iconst 0, 1) := by decide +kernel
theorem dP_addBlock_5 : decode cP_addBlock 5 = .ok (.invokestatic 73, 3) := by decide +kernel
theorem dP_addBlock_8 : decode cP_addBlock 8 = .ok (.aload_n 1, 1) := by decide +kernel
theorem dP_addBlock_9 : decode cP_addBlock 9 = .ok (.iload_n 2, 1) := by decide +kernel
theorem dP_addBlock_10 : decode cP_addBlock 10 = .ok (.aload_n 0, 1) := by decide +kernel
theorem dP_addBlock_11 : decode cP_addBlock 11 = .ok (.getfield 26, 3) := by decide +kernel
theorem dP_addBlock_14 : decode cP_addBlock 14 = .ok (.iconst 0, 1) := by decide +kernel
theorem dP_addBlock_15 : decode cP_addBlock 15 = .ok (.iload_n 3, 1) := by decide +kernel
theorem dP_addBlock_16 : decode cP_addBlock 16 = .ok (.invokestatic 30, 3) := by decide +kernel
theorem dP_addBlock_19 : decode cP_addBlock 19 = .ok (.aload_n 0, 1) := by decide +kernel
theorem dP_addBlock_20 : decode cP_addBlock 20 = .ok (.getfield 26, 3) := by decide +kernel
theorem dP_addBlock_23 : decode cP_addBlock 23 = .ok (.iload 4, 2) := by decide +kernel
theorem dP_addBlock_25 : decode cP_addBlock 25 = .ok (.iconst 1, 1) := by decide +kernel
theorem dP_addBlock_26 : decode cP_addBlock 26 = .ok (.bastore, 1) := by decide +kernel
theorem dP_addBlock_27 : decode cP_addBlock 27 = .ok (.iconst 0, 1) := by decide +kernel
theorem dP_addBlock_28 : decode cP_addBlock 28 = .ok (.istore 5, 2) := by decide +kernel
theorem dP_addBlock_30 : decode cP_addBlock 30 = .ok (.iload 5, 2) := by decide +kernel
theorem dP_addBlock_32 : decode cP_addBlock 32 = .ok (.iconst 5, 1) := by decide +kernel
theorem dP_addBlock_33 : decode cP_addBlock 33 = .ok (.if_icmp .ge 25, 3) := by decide +kernel
theorem dP_addBlock_36 : decode cP_addBlock 36 = .ok (.aload_n 0, 1) := by decide +kernel
theorem dP_addBlock_37 : decode cP_addBlock 37 = .ok (.getfield 13, 3) := by decide +kernel
theorem dP_addBlock_40 : decode cP_addBlock 40 = .ok (.iload 5, 2) := by decide +kernel
theorem dP_addBlock_42 : decode cP_addBlock 42 = .ok (.dup2, 1) := by decide +kernel
theorem dP_addBlock_43 : decode cP_addBlock 43 = .ok (.laload, 1) := by decide +kernel
theorem dP_addBlock_44 : decode cP_addBlock 44 = .ok (.aload_n 0, 1) := by decide +kernel
theorem dP_addBlock_45 : decode cP_addBlock 45 = .ok (.iload 5, 2) := by decide +kernel
theorem dP_addBlock_47 : decode cP_addBlock 47 = .ok (.invokevirtual 39, 3) := by decide +kernel
theorem dP_addBlock_50 : decode cP_addBlock 50 = .ok (.ladd, 1) := by decide +kernel
theorem dP_addBlock_51 : decode cP_addBlock 51 = .ok (.lastore, 1) := by decide +kernel
theorem dP_addBlock_52 : decode cP_addBlock 52 = .ok (.iinc 5 1, 3) := by decide +kernel
theorem dP_addBlock_55 : decode cP_addBlock 55 = .ok (.goto (-25), 3) := by decide +kernel
theorem dP_addBlock_58 : decode cP_addBlock 58 = .ok (.aload_n 0, 1) := by decide +kernel
theorem dP_addBlock_59 : decode cP_addBlock 59 = .ok (.invokevirtual 79, 3) := by decide +kernel
theorem dP_addBlock_62 : decode cP_addBlock 62 = .ok (.return_, 1) := by decide +kernel
theorem dP_multiply_0 : decode cP_multiply 0 = .ok (.iconst 0, 1) := by decide +kernel
theorem dP_multiply_1 : decode cP_multiply 1 = .ok (.istore_n 1, 1) := by decide +kernel
theorem dP_multiply_2 : decode cP_multiply 2 = .ok (.iload_n 1, 1) := by decide +kernel
theorem dP_multiply_3 : decode cP_multiply 3 = .ok (.iconst 5, 1) := by decide +kernel
theorem dP_multiply_4 : decode cP_multiply 4 = .ok (.if_icmp .ge 104, 3) := by decide +kernel
theorem dP_multiply_7 : decode cP_multiply 7 = .ok (.lconst 0, 1) := by decide +kernel
theorem dP_multiply_8 : decode cP_multiply 8 = .ok (.lstore_n 2, 1) := by decide +kernel
theorem dP_multiply_9 : decode cP_multiply 9 = .ok (.lconst 0, 1) := by decide +kernel
theorem dP_multiply_10 : decode cP_multiply 10 = .ok (.lstore 4, 2) := by decide +kernel
theorem dP_multiply_12 : decode cP_multiply 12 = .ok (.iconst 0, 1) := by decide +kernel
theorem dP_multiply_13 : decode cP_multiply 13 = .ok (.istore 6, 2) := by decide +kernel
theorem dP_multiply_15 : decode cP_multiply 15 = .ok (.iload 6, 2) := by decide +kernel
theorem dP_multiply_17 : decode cP_multiply 17 = .ok (.iload_n 1, 1) := by decide +kernel
theorem dP_multiply_18 : decode cP_multiply 18 = .ok (.if_icmp .gt 29, 3) := by decide +kernel
theorem dP_multiply_21 : decode cP_multiply 21 = .ok (.lload_n 2, 1) := by decide +kernel
theorem dP_multiply_22 : decode cP_multiply 22 = .ok (.aload_n 0, 1) := by decide +kernel
theorem dP_multiply_23 : decode cP_multiply 23 = .ok (.getfield 13, 3) := by decide +kernel
theorem dP_multiply_26 : decode cP_multiply 26 = .ok (.iload 6, 2) := by decide +kernel
theorem dP_multiply_28 : decode cP_multiply 28 = .ok (.laload, 1) := by decide +kernel
theorem dP_multiply_29 : decode cP_multiply 29 = .ok (.aload_n 0, 1) := by decide +kernel
theorem dP_multiply_30 : decode cP_multiply 30 = .ok (.getfield 9, 3) := by decide +kernel
theorem dP_multiply_33 : decode cP_multiply 33 = .ok (.iload_n 1, 1) := by decide +kernel
theorem dP_multiply_34 : decode cP_multiply 34 = .ok (.iload 6, 2) := by decide +kernel
theorem dP_multiply_36 : decode cP_multiply 36 = .ok (.isub, 1) := by decide +kernel
theorem dP_multiply_37 : decode cP_multiply 37 = .ok (.laload, 1) := by decide +kernel
theorem dP_multiply_38 : decode cP_multiply 38 = .ok (.lmul, 1) := by decide +kernel
theorem dP_multiply_39 : decode cP_multiply 39 = .ok (.ladd, 1) := by decide +kernel
theorem dP_multiply_40 : decode cP_multiply 40 = .ok (.lstore_n 2, 1) := by decide +kernel
theorem dP_multiply_41 : decode cP_multiply 41 = .ok (.iinc 6 1, 3) := by decide +kernel
theorem dP_multiply_44 : decode cP_multiply 44 = .ok (.goto (-29), 3) := by decide +kernel
theorem dP_multiply_47 : decode cP_multiply 47 = .ok (.iload_n 1, 1) := by decide +kernel
theorem dP_multiply_48 : decode cP_multiply 48 = .ok (.iconst 1, 1) := by decide +kernel
theorem dP_multiply_49 : decode cP_multiply 49 = .ok (.iadd, 1) := by decide +kernel
theorem dP_multiply_50 : decode cP_multiply 50 = .ok (.istore 6, 2) := by decide +kernel
theorem dP_multiply_52 : decode cP_multiply 52 = .ok (.iload 6, 2) := by decide +kernel
theorem dP_multiply_54 : decode cP_multiply 54 = .ok (.iconst 5, 1) := by decide +kernel
theorem dP_multiply_55 : decode cP_multiply 55 = .ok (.if_icmp .ge 33, 3) := by decide +kernel
theorem dP_multiply_58 : decode cP_multiply 58 = .ok (.lload 4, 2) := by decide +kernel
theorem dP_multiply_60 : decode cP_multiply 60 = .ok (.aload_n 0, 1) := by decide +kernel
theorem dP_multiply_61 : decode cP_multiply 61 = .ok (.getfield 13, 3) := by decide +kernel
theorem dP_multiply_64 : decode cP_multiply 64 = .ok (.iload 6, 2) := by decide +kernel
theorem dP_multiply_66 : decode cP_multiply 66 = .ok (.laload, 1) := by decide +kernel
theorem dP_multiply_67 : decode cP_multiply 67 = .ok (.aload_n 0, 1) := by decide +kernel
theorem dP_multiply_68 : decode cP_multiply 68 = .ok (.getfield 9, 3) := by decide +kernel
theorem dP_multiply_71 : decode cP_multiply 71 = .ok (.iload_n 1, 1) := by decide +kernel
theorem dP_multiply_72 : decode cP_multiply 72 = .ok (.iload 6, 2) := by decide +kernel
theorem dP_multiply_74 : decode cP_multiply 74 = .ok (.isub, 1) := by decide +kernel
theorem dP_multiply_75 : decode cP_multiply 75 = .ok (.iconst 5, 1) := by decide +kernel
theorem dP_multiply_76 : decode cP_multiply 76 = .ok (.iadd, 1) := by decide +kernel
theorem dP_multiply_77 : decode cP_multiply 77 = .ok (.laload, 1) := by decide +kernel
theorem dP_multiply_78 : decode cP_multiply 78 = .ok (.lmul, 1) := by decide +kernel
theorem dP_multiply_79 : decode cP_multiply 79 = .ok (.ladd, 1) := by decide +kernel
theorem dP_multiply_80 : decode cP_multiply 80 = .ok (.lstore 4, 2) := by decide +kernel
theorem dP_multiply_82 : decode cP_multiply 82 = .ok (.iinc 6 1, 3) := by decide +kernel
theorem dP_multiply_85 : decode cP_multiply 85 = .ok (.goto (-33), 3) := by decide +kernel
theorem dP_multiply_88 : decode cP_multiply 88 = .ok (.aload_n 0, 1) := by decide +kernel
theorem dP_multiply_89 : decode cP_multiply 89 = .ok (.getfield 16, 3) := by decide +kernel
theorem dP_multiply_92 : decode cP_multiply 92 = .ok (.iload_n 1, 1) := by decide +kernel
theorem dP_multiply_93 : decode cP_multiply 93 = .ok (.lload_n 2, 1) := by decide +kernel
theorem dP_multiply_94 : decode cP_multiply 94 = .ok (.ldc2_w 82, 3) := by decide +kernel
theorem dP_multiply_97 : decode cP_multiply 97 = .ok (.lload 4, 2) := by decide +kernel
theorem dP_multiply_99 : decode cP_multiply 99 = .ok (.lmul, 1) := by decide +kernel
theorem dP_multiply_100 : decode cP_multiply 100 = .ok (.ladd, 1) := by decide +kernel
theorem dP_multiply_101 : decode cP_multiply 101 = .ok (.lastore, 1) := by decide +kernel
theorem dP_multiply_102 : decode cP_multiply 102 = .ok (.iinc 1 1, 3) := by decide +kernel
theorem dP_multiply_105 : decode cP_multiply 105 = .ok (.goto (-103), 3) := by decide +kernel
theorem dP_multiply_108 : decode cP_multiply 108 = .ok (.aload_n 0, 1) := by decide +kernel
theorem dP_multiply_109 : decode cP_multiply 109 = .ok (.getfield 16, 3) := by decide +kernel
theorem dP_multiply_112 : decode cP_multiply 112 = .ok (.iconst 0, 1) := by decide +kernel
theorem dP_multiply_113 : decode cP_multiply 113 = .ok (.aload_n 0, 1) := by decide +kernel
theorem dP_multiply_114 : decode cP_multiply 114 = .ok (.getfield 13, 3) := by decide +kernel
theorem dP_multiply_117 : decode cP_multiply 117 = .ok (.iconst 0, 1) := by decide +kernel
theorem dP_multiply_118 : decode cP_multiply 118 = .ok (.iconst 5, 1) := by decide +kernel
theorem dP_multiply_119 : decode cP_multiply 119 = .ok (.invokestatic 30, 3) := by decide +kernel
theorem dP_multiply_122 : decode cP_multiply 122 = .ok (.aload_n 0, 1) := by decide +kernel
theorem dP_multiply_123 : decode cP_multiply 123 = .ok (.invokevirtual 59, 3) := by decide +kernel
theorem dP_multiply_126 : decode cP_multiply 126 = .ok (.aload_n 0, 1) := by decide +kernel
theorem dP_multiply_127 : decode cP_multiply 127 = .ok (.invokevirtual 59, 3) := by decide +kernel
theorem dP_multiply_130 : decode cP_multiply 130 = .ok (.return_, 1) := by decide +kernel
theorem dP_carry_0 : decode cP_carry 0 = .ok (.lconst 0, 1) := by decide +kernel
theorem dP_carry_1 : decode cP_carry 1 = .ok (.lstore_n 1, 1) := by decide +kernel
theorem dP_carry_2 : decode cP_carry 2 = .ok (.iconst 0, 1) := by decide +kernel
theorem dP_carry_3 : decode cP_carry 3 = .ok (.istore_n 3, 1) := by decide +kernel
theorem dP_carry_4 : decode cP_carry 4 = .ok (.iload_n 3, 1) := by decide +kernel
theorem dP_carry_5 : decode cP_carry 5 = .ok (.iconst 5, 1) := by decide +kernel
theorem dP_carry_6 : decode cP_carry 6 = .ok (.if_icmp .ge 37, 3) := by decide +kernel
theorem dP_carry_9 : decode cP_carry 9 = .ok (.aload_n 0, 1) := by decide +kernel
theorem dP_carry_10 : decode cP_carry 10 = .ok (.getfield 13, 3) := by decide +kernel
theorem dP_carry_13 : decode cP_carry 13 = .ok (.iload_n 3, 1) := by decide +kernel
theorem dP_carry_14 : decode cP_carry 14 = .ok (.laload, 1) := by decide +kernel
theorem dP_carry_15 : decode cP_carry 15 = .ok (.lload_n 1, 1) := by decide +kernel
theorem dP_carry_16 : decode cP_carry 16 = .ok (.ladd, 1) := by decide +kernel
theorem dP_carry_17 : decode cP_carry 17 = .ok (.lstore 4, 2) := by decide +kernel
theorem dP_carry_19 : decode cP_carry 19 = .ok (.aload_n 0, 1) := by decide +kernel
theorem dP_carry_20 : decode cP_carry 20 = .ok (.getfield 13, 3) := by decide +kernel
theorem dP_carry_23 : decode cP_carry 23 = .ok (.iload_n 3, 1) := by decide +kernel
theorem dP_carry_24 : decode cP_carry 24 = .ok (.lload 4, 2) := by decide +kernel
theorem dP_carry_26 : decode cP_carry 26 = .ok (.ldc2_w 71, 3) := by decide +kernel
theorem dP_carry_29 : decode cP_carry 29 = .ok (.land, 1) := by decide +kernel
theorem dP_carry_30 : decode cP_carry 30 = .ok (.lastore, 1) := by decide +kernel
theorem dP_carry_31 : decode cP_carry 31 = .ok (.lload 4, 2) := by decide +kernel
theorem dP_carry_33 : decode cP_carry 33 = .ok (.bipush 26, 2) := by decide +kernel
theorem dP_carry_35 : decode cP_carry 35 = .ok (.lushr, 1) := by decide +kernel
theorem dP_carry_36 : decode cP_carry 36 = .ok (.lstore_n 1, 1) := by decide +kernel
theorem dP_carry_37 : decode cP_carry 37 = .ok (.iinc 3 1, 3) := by decide +kernel
theorem dP_carry_40 : decode cP_carry 40 = .ok (.goto (-36), 3) := by decide +kernel
theorem dP_carry_43 : decode cP_carry 43 = .ok (.aload_n 0, 1) := by decide +kernel
theorem dP_carry_44 : decode cP_carry 44 = .ok (.getfield 13, 3) := by decide +kernel
theorem dP_carry_47 : decode cP_carry 47 = .ok (.iconst 0, 1) := by decide +kernel
theorem dP_carry_48 : decode cP_carry 48 = .ok (.dup2, 1) := by decide +kernel
theorem dP_carry_49 : decode cP_carry 49 = .ok (.laload, 1) := by decide +kernel
theorem dP_carry_50 : decode cP_carry 50 = .ok (.ldc2_w 82, 3) := by decide +kernel
theorem dP_carry_53 : decode cP_carry 53 = .ok (.lload_n 1, 1) := by decide +kernel
theorem dP_carry_54 : decode cP_carry 54 = .ok (.lmul, 1) := by decide +kernel
theorem dP_carry_55 : decode cP_carry 55 = .ok (.ladd, 1) := by decide +kernel
theorem dP_carry_56 : decode cP_carry 56 = .ok (.lastore, 1) := by decide +kernel
theorem dP_carry_57 : decode cP_carry 57 = .ok (.return_, 1) := by decide +kernel
theorem dP_takePrimeOff_0 : decode cP_takePrimeOff 0 = .ok (.ldc2_w 82, 3) := by decide +kernel
theorem dP_takePrimeOff_3 : decode cP_takePrimeOff 3 = .ok (.lstore_n 1, 1) := by decide +kernel
theorem dP_takePrimeOff_4 : decode cP_takePrimeOff 4 = .ok (.iconst 0, 1) := by decide +kernel
theorem dP_takePrimeOff_5 : decode cP_takePrimeOff 5 = .ok (.istore_n 3, 1) := by decide +kernel
theorem dP_takePrimeOff_6 : decode cP_takePrimeOff 6 = .ok (.iload_n 3, 1) := by decide +kernel
theorem dP_takePrimeOff_7 : decode cP_takePrimeOff 7 = .ok (.iconst 5, 1) := by decide +kernel
theorem dP_takePrimeOff_8 : decode cP_takePrimeOff 8 = .ok (.if_icmp .ge 37, 3) := by decide +kernel
theorem dP_takePrimeOff_11 : decode cP_takePrimeOff 11 = .ok (.aload_n 0, 1) := by decide +kernel
theorem dP_takePrimeOff_12 : decode cP_takePrimeOff 12 = .ok (.getfield 13, 3) := by decide +kernel
theorem dP_takePrimeOff_15 : decode cP_takePrimeOff 15 = .ok (.iload_n 3, 1) := by decide +kernel
theorem dP_takePrimeOff_16 : decode cP_takePrimeOff 16 = .ok (.laload, 1) := by decide +kernel
theorem dP_takePrimeOff_17 : decode cP_takePrimeOff 17 = .ok (.lload_n 1, 1) := by decide +kernel
theorem dP_takePrimeOff_18 : decode cP_takePrimeOff 18 = .ok (.ladd, 1) := by decide +kernel
theorem dP_takePrimeOff_19 : decode cP_takePrimeOff 19 = .ok (.lstore 4, 2) := by decide +kernel
theorem dP_takePrimeOff_21 : decode cP_takePrimeOff 21 = .ok (.aload_n 0, 1) := by decide +kernel
theorem dP_takePrimeOff_22 : decode cP_takePrimeOff 22 = .ok (.getfield 16, 3) := by decide +kernel
theorem dP_takePrimeOff_25 : decode cP_takePrimeOff 25 = .ok (.iload_n 3, 1) := by decide +kernel
theorem dP_takePrimeOff_26 : decode cP_takePrimeOff 26 = .ok (.lload 4, 2) := by decide +kernel
theorem dP_takePrimeOff_28 : decode cP_takePrimeOff 28 = .ok (.ldc2_w 71, 3) := by decide +kernel
theorem dP_takePrimeOff_31 : decode cP_takePrimeOff 31 = .ok (.land, 1) := by decide +kernel
theorem dP_takePrimeOff_32 : decode cP_takePrimeOff 32 = .ok (.lastore, 1) := by decide +kernel
theorem dP_takePrimeOff_33 : decode cP_takePrimeOff 33 = .ok (.lload 4, 2) := by decide +kernel
theorem dP_takePrimeOff_35 : decode cP_takePrimeOff 35 = .ok (.bipush 26, 2) := by decide +kernel
theorem dP_takePrimeOff_37 : decode cP_takePrimeOff 37 = .ok (.lushr, 1) := by decide +kernel
theorem dP_takePrimeOff_38 : decode cP_takePrimeOff 38 = .ok (.lstore_n 1, 1) := by decide +kernel
theorem dP_takePrimeOff_39 : decode cP_takePrimeOff 39 = .ok (.iinc 3 1, 3) := by decide +kernel
theorem dP_takePrimeOff_42 : decode cP_takePrimeOff 42 = .ok (.goto (-36), 3) := by decide +kernel
theorem dP_takePrimeOff_45 : decode cP_takePrimeOff 45 = .ok (.lload_n 1, 1) := by decide +kernel
theorem dP_takePrimeOff_46 : decode cP_takePrimeOff 46 = .ok (.lconst 0, 1) := by decide +kernel
theorem dP_takePrimeOff_47 : decode cP_takePrimeOff 47 = .ok (.lcmp, 1) := by decide +kernel
theorem dP_takePrimeOff_48 : decode cP_takePrimeOff 48 = .ok (.ifCond .eq 17, 3) := by decide +kernel
theorem dP_takePrimeOff_51 : decode cP_takePrimeOff 51 = .ok (.aload_n 0, 1) := by decide +kernel
theorem dP_takePrimeOff_52 : decode cP_takePrimeOff 52 = .ok (.getfield 16, 3) := by decide +kernel
theorem dP_takePrimeOff_55 : decode cP_takePrimeOff 55 = .ok (.iconst 0, 1) := by decide +kernel
theorem dP_takePrimeOff_56 : decode cP_takePrimeOff 56 = .ok (.aload_n 0, 1) := by decide +kernel
theorem dP_takePrimeOff_57 : decode cP_takePrimeOff 57 = .ok (.getfield 13, 3) := by decide +kernel
theorem dP_takePrimeOff_60 : decode cP_takePrimeOff 60 = .ok (.iconst 0, 1) := by decide +kernel
theorem dP_takePrimeOff_61 : decode cP_takePrimeOff 61 = .ok (.iconst 5, 1) := by decide +kernel
theorem dP_takePrimeOff_62 : decode cP_takePrimeOff 62 = .ok (.invokestatic 30, 3) := by decide +kernel
theorem dP_takePrimeOff_65 : decode cP_takePrimeOff 65 = .ok (.return_, 1) := by decide +kernel
theorem dH_init_0 : decode cH_init 0 = .ok (.aload_n 0, 1) := by decide +kernel
theorem dH_init_1 : decode cH_init 1 = .ok (.invokespecial 1, 3) := by decide +kernel
theorem dH_init_4 : decode cH_init 4 = .ok (.aload_n 0, 1) := by decide +kernel
theorem dH_init_5 : decode cH_init 5 = .ok (.bipush 8, 2) := by decide +kernel
theorem dH_init_7 : decode cH_init 7 = .ok (.newarray .int, 2) := by decide +kernel
theorem dH_init_9 : decode cH_init 9 = .ok (.putfield 9, 3) := by decide +kernel
theorem dH_init_12 : decode cH_init 12 = .ok (.aload_n 0, 1) := by decide +kernel
theorem dH_init_13 : decode cH_init 13 = .ok (.bipush 64, 2) := by decide +kernel
theorem dH_init_15 : decode cH_init 15 = .ok (.newarray .int, 2) := by decide +kernel
theorem dH_init_17 : decode cH_init 17 = .ok (.putfield 13, 3) := by decide +kernel
theorem dH_init_20 : decode cH_init 20 = .ok (.aload_n 0, 1) := by decide +kernel
theorem dH_init_21 : decode cH_init 21 = .ok (.bipush 8, 2) := by decide +kernel
theorem dH_init_23 : decode cH_init 23 = .ok (.newarray .int, 2) := by decide +kernel
theorem dH_init_25 : decode cH_init 25 = .ok (.putfield 16, 3) := by decide +kernel
theorem dH_init_28 : decode cH_init 28 = .ok (.aload_n 0, 1) := by decide +kernel
theorem dH_init_29 : decode cH_init 29 = .ok (.bipush 64, 2) := by decide +kernel
theorem dH_init_31 : decode cH_init 31 = .ok (.newarray .byte, 2) := by decide +kernel
theorem dH_init_33 : decode cH_init 33 = .ok (.putfield 19, 3) := by decide +kernel
theorem dH_init_36 : decode cH_init 36 = .ok (.aload_n 0, 1) := by decide +kernel
theorem dH_init_37 : decode cH_init 37 = .ok (.iconst 0, 1) := by decide +kernel
theorem dH_init_38 : decode cH_init 38 = .ok (.putfield 23, 3) := by decide +kernel
theorem dH_init_41 : decode cH_init 41 = .ok (.aload_n 0, 1) := by decide +kernel
theorem dH_init_42 : decode cH_init 42 = .ok (.iconst 0, 1) := by decide +kernel
theorem dH_init_43 : decode cH_init 43 = .ok (.putfield 27, 3) := by decide +kernel
theorem dH_init_46 : decode cH_init 46 = .ok (.return_, 1) := by decide +kernel
theorem dH_start_0 : decode cH_start 0 = .ok (.getstatic 30, 3) := by decide +kernel
theorem dH_start_3 : decode cH_start 3 = .ok (.iconst 0, 1) := by decide +kernel
theorem dH_start_4 : decode cH_start 4 = .ok (.aload_n 0, 1) := by decide +kernel
theorem dH_start_5 : decode cH_start 5 = .ok (.getfield 9, 3) := by decide +kernel
theorem dH_start_8 : decode cH_start 8 = .ok (.iconst 0, 1) := by decide +kernel
theorem dH_start_9 : decode cH_start 9 = .ok (.bipush 8, 2) := by decide +kernel
theorem dH_start_11 : decode cH_start 11 = .ok (.invokestatic 33, 3) := by decide +kernel
theorem dH_start_14 : decode cH_start 14 = .ok (.aload_n 0, 1) := by decide +kernel
theorem dH_start_15 : decode cH_start 15 = .ok (.iconst 0, 1) := by decide +kernel
theorem dH_start_16 : decode cH_start 16 = .ok (.putfield 23, 3) := by decide +kernel
theorem dH_start_19 : decode cH_start 19 = .ok (.aload_n 0, 1) := by decide +kernel
theorem dH_start_20 : decode cH_start 20 = .ok (.iconst 0, 1) := by decide +kernel
theorem dH_start_21 : decode cH_start 21 = .ok (.putfield 27, 3) := by decide +kernel
theorem dH_start_24 : decode cH_start 24 = .ok (.return_, 1) := by decide +kernel
theorem dH_add_0 : decode cH_add 0 = .ok (.iconst 0, 1) := by decide +kernel
theorem dH_add_1 : decode cH_add 1 = .ok (.istore_n 3, 1) := by decide +kernel
theorem dH_add_2 : decode cH_add 2 = .ok (.iload_n 3, 1) := by decide +kernel
theorem dH_add_3 : decode cH_add 3 = .ok (.iload_n 2, 1) := by decide +kernel
theorem dH_add_4 : decode cH_add 4 = .ok (.if_icmp .ge 16, 3) := by decide +kernel
theorem dH_add_7 : decode cH_add 7 = .ok (.aload_n 0, 1) := by decide +kernel
theorem dH_add_8 : decode cH_add 8 = .ok (.aload_n 1, 1) := by decide +kernel
theorem dH_add_9 : decode cH_add 9 = .ok (.iload_n 3, 1) := by decide +kernel
theorem dH_add_10 : decode cH_add 10 = .ok (.baload, 1) := by decide +kernel
theorem dH_add_11 : decode cH_add 11 = .ok (.invokevirtual 39, 3) := by decide +kernel
theorem dH_add_14 : decode cH_add 14 = .ok (.iinc 3 1, 3) := by decide +kernel
theorem dH_add_17 : decode cH_add 17 = .ok (.goto (-15), 3) := by decide +kernel
theorem dH_add_20 : decode cH_add 20 = .ok (.return_, 1) := by decide +kernel
theorem dH_addMasked_0 : decode cH_addMasked 0 = .ok (.iconst 0, 1) := by decide +kernel
theorem dH_addMasked_1 : decode cH_addMasked 1 = .ok (.istore_n 3, 1) := by decide +kernel
theorem dH_addMasked_2 : decode cH_addMasked 2 = .ok (.iload_n 3, 1) := by decide +kernel
theorem dH_addMasked_3 : decode cH_addMasked 3 = .ok (.bipush 64, 2) := by decide +kernel
theorem dH_addMasked_5 : decode cH_addMasked 5 = .ok (.if_icmp .ge 29, 3) := by decide +kernel
theorem dH_addMasked_8 : decode cH_addMasked 8 = .ok (.aload_n 0, 1) := by decide +kernel
theorem dH_addMasked_9 : decode cH_addMasked 9 = .ok (.iload_n 3, 1) := by decide +kernel
theorem dH_addMasked_10 : decode cH_addMasked 10 = .ok (.aload_n 1, 1) := by decide +kernel
theorem dH_addMasked_11 : decode cH_addMasked 11 = .ok (.arraylength, 1) := by decide +kernel
theorem dH_addMasked_12 : decode cH_addMasked 12 = .ok (.if_icmp .ge 11, 3) := by decide +kernel
theorem dH_addMasked_15 : decode cH_addMasked 15 = .ok (.aload_n 1, 1) := by decide +kernel
theorem dH_addMasked_16 : decode cH_addMasked 16 = .ok (.iload_n 3, 1) := by decide +kernel
theorem dH_addMasked_17 : decode cH_addMasked 17 = .ok (.baload, 1) := by decide +kernel
theorem dH_addMasked_18 : decode cH_addMasked 18 = .ok (.iload_n 2, 1) := by decide +kernel
theorem dH_addMasked_19 : decode cH_addMasked 19 = .ok (.ixor, 1) := by decide +kernel
theorem dH_addMasked_20 : decode cH_addMasked 20 = .ok (.goto 4, 3) := by decide +kernel
theorem dH_addMasked_23 : decode cH_addMasked 23 = .ok (.iload_n 2, 1) := by decide +kernel
theorem dH_addMasked_24 : decode cH_addMasked 24 = .ok (.i2b, 1) := by decide +kernel
theorem dH_addMasked_25 : decode cH_addMasked 25 = .ok (.invokevirtual 39, 3) := by decide +kernel
theorem dH_addMasked_28 : decode cH_addMasked 28 = .ok (.iinc 3 1, 3) := by decide +kernel
theorem dH_addMasked_31 : decode cH_addMasked 31 = .ok (.goto (-29), 3) := by decide +kernel
theorem dH_addMasked_34 : decode cH_addMasked 34 = .ok (.return_, 1) := by decide +kernel
theorem dH_finish_0 : decode cH_finish 0 = .ok (.aload_n 0, 1) := by decide +kernel
theorem dH_finish_1 : decode cH_finish 1 = .ok (.getfield 27, 3) := by decide +kernel
theorem dH_finish_4 : decode cH_finish 4 = .ok (.bipush 8, 2) := by decide +kernel
theorem dH_finish_6 : decode cH_finish 6 = .ok (.imul, 1) := by decide +kernel
theorem dH_finish_7 : decode cH_finish 7 = .ok (.istore_n 2, 1) := by decide +kernel
theorem dH_finish_8 : decode cH_finish 8 = .ok (.aload_n 0, 1) := by decide +kernel
theorem dH_finish_9 : decode cH_finish 9 = .ok (.bipush (-128), 2) := by decide +kernel
theorem dH_finish_11 : decode cH_finish 11 = .ok (.invokevirtual 39, 3) := by decide +kernel
theorem dH_finish_14 : decode cH_finish 14 = .ok (.bipush 56, 2) := by decide +kernel
theorem dH_finish_16 : decode cH_finish 16 = .ok (.aload_n 0, 1) := by decide +kernel
theorem dH_finish_17 : decode cH_finish 17 = .ok (.getfield 23, 3) := by decide +kernel
theorem dH_finish_20 : decode cH_finish 20 = .ok (.isub, 1) := by decide +kernel
theorem dH_finish_21 : decode cH_finish 21 = .ok (.bipush 63, 2) := by decide +kernel
theorem dH_finish_23 : decode cH_finish 23 = .ok (.iand, 1) := by decide +kernel
theorem dH_finish_24 : decode cH_finish 24 = .ok (.istore_n 3, 1) := by decide +kernel
theorem dH_finish_25 : decode cH_finish 25 = .ok (.iconst 0, 1) := by decide +kernel
theorem dH_finish_26 : decode cH_finish 26 = .ok (.istore 4, 2) := by decide +kernel
theorem dH_finish_28 : decode cH_finish 28 = .ok (.iload 4, 2) := by decide +kernel
theorem dH_finish_30 : decode cH_finish 30 = .ok (.iload_n 3, 1) := by decide +kernel
theorem dH_finish_31 : decode cH_finish 31 = .ok (.iconst 4, 1) := by decide +kernel
theorem dH_finish_32 : decode cH_finish 32 = .ok (.iadd, 1) := by decide +kernel
theorem dH_finish_33 : decode cH_finish 33 = .ok (.if_icmp .ge 14, 3) := by decide +kernel
theorem dH_finish_36 : decode cH_finish 36 = .ok (.aload_n 0, 1) := by decide +kernel
theorem dH_finish_37 : decode cH_finish 37 = .ok (.iconst 0, 1) := by decide +kernel
theorem dH_finish_38 : decode cH_finish 38 = .ok (.invokevirtual 39, 3) := by decide +kernel
theorem dH_finish_41 : decode cH_finish 41 = .ok (.iinc 4 1, 3) := by decide +kernel
theorem dH_finish_44 : decode cH_finish 44 = .ok (.goto (-16), 3) := by decide +kernel
theorem dH_finish_47 : decode cH_finish 47 = .ok (.bipush 24, 2) := by decide +kernel
theorem dH_finish_49 : decode cH_finish 49 = .ok (.istore 4, 2) := by decide +kernel
theorem dH_finish_51 : decode cH_finish 51 = .ok (.iload 4, 2) := by decide +kernel
theorem dH_finish_53 : decode cH_finish 53 = .ok (.ifCond .lt 18, 3) := by decide +kernel
theorem dH_finish_56 : decode cH_finish 56 = .ok (.aload_n 0, 1) := by decide +kernel
theorem dH_finish_57 : decode cH_finish 57 = .ok (.iload_n 2, 1) := by decide +kernel
theorem dH_finish_58 : decode cH_finish 58 = .ok (.iload 4, 2) := by decide +kernel
theorem dH_finish_60 : decode cH_finish 60 = .ok (.iushr, 1) := by decide +kernel
theorem dH_finish_61 : decode cH_finish 61 = .ok (.i2b, 1) := by decide +kernel
theorem dH_finish_62 : decode cH_finish 62 = .ok (.invokevirtual 39, 3) := by decide +kernel
theorem dH_finish_65 : decode cH_finish 65 = .ok (.iinc 4 (-8), 3) := by decide +kernel
theorem dH_finish_68 : decode cH_finish 68 = .ok (.goto (-17), 3) := by decide +kernel
theorem dH_finish_71 : decode cH_finish 71 = .ok (.iconst 0, 1) := by decide +kernel
theorem dH_finish_72 : decode cH_finish 72 = .ok (.istore 4, 2) := by decide +kernel
theorem dH_finish_74 : decode cH_finish 74 = .ok (.iload 4, 2) := by decide +kernel
theorem dH_finish_76 : decode cH_finish 76 = .ok (.bipush 8, 2) := by decide +kernel
theorem dH_finish_78 : decode cH_finish 78 = .ok (.if_icmp .ge 24, 3) := by decide +kernel
theorem dH_finish_81 : decode cH_finish 81 = .ok (.aload_n 1, 1) := by decide +kernel
theorem dH_finish_82 : decode cH_finish 82 = .ok (.iconst 4, 1) := by decide +kernel
theorem dH_finish_83 : decode cH_finish 83 = .ok (.iload 4, 2) := by decide +kernel
theorem dH_finish_85 : decode cH_finish 85 = .ok (.imul, 1) := by decide +kernel
theorem dH_finish_86 : decode cH_finish 86 = .ok (.aload_n 0, 1) := by decide +kernel
theorem dH_finish_87 : decode cH_finish 87 = .ok (.getfield 9, 3) := by decide +kernel
theorem dH_finish_90 : decode cH_finish 90 = .ok (.iload 4, 2) := by decide +kernel
theorem dH_finish_92 : decode cH_finish 92 = .ok (.iaload, 1) := by decide +kernel
theorem dH_finish_93 : decode cH_finish 93 = .ok (.invokestatic 43, 3) := by decide +kernel
theorem dH_finish_96 : decode cH_finish 96 = .ok (.iinc 4 1, 3) := by decide +kernel
theorem dH_finish_99 : decode cH_finish 99 = .ok (.goto (-25), 3) := by decide +kernel
theorem dH_finish_102 : decode cH_finish 102 = .ok (.return_, 1) := by decide +kernel
theorem dH_addByte_0 : decode cH_addByte 0 = .ok (.aload_n 0, 1) := by decide +kernel
theorem dH_addByte_1 : decode cH_addByte 1 = .ok (.getfield 19, 3) := by decide +kernel
theorem dH_addByte_4 : decode cH_addByte 4 = .ok (.aload_n 0, 1) := by decide +kernel
theorem dH_addByte_5 : decode cH_addByte 5 = .ok (.getfield 23, 3) := by decide +kernel
theorem dH_addByte_8 : decode cH_addByte 8 = .ok (.iload_n 1, 1) := by decide +kernel
theorem dH_addByte_9 : decode cH_addByte 9 = .ok (.bastore, 1) := by decide +kernel
theorem dH_addByte_10 : decode cH_addByte 10 = .ok (.aload_n 0, 1) := by decide +kernel
theorem dH_addByte_11 : decode cH_addByte 11 = .ok (.dup, 1) := by decide +kernel
theorem dH_addByte_12 : decode cH_addByte 12 = .ok (.getfield 23, 3) := by decide +kernel
theorem dH_addByte_15 : decode cH_addByte 15 = .ok (.iconst 1, 1) := by decide +kernel
theorem dH_addByte_16 : decode cH_addByte 16 = .ok (.iadd, 1) := by decide +kernel
theorem dH_addByte_17 : decode cH_addByte 17 = .ok (.putfield 23, 3) := by decide +kernel
theorem dH_addByte_20 : decode cH_addByte 20 = .ok (.aload_n 0, 1) := by decide +kernel
theorem dH_addByte_21 : decode cH_addByte 21 = .ok (.dup, 1) := by decide +kernel
theorem dH_addByte_22 : decode cH_addByte 22 = .ok (.getfield 27, 3) := by decide +kernel
theorem dH_addByte_25 : decode cH_addByte 25 = .ok (.iconst 1, 1) := by decide +kernel
theorem dH_addByte_26 : decode cH_addByte 26 = .ok (.iadd, 1) := by decide +kernel
theorem dH_addByte_27 : decode cH_addByte 27 = .ok (.putfield 27, 3) := by decide +kernel
theorem dH_addByte_30 : decode cH_addByte 30 = .ok (.aload_n 0, 1) := by decide +kernel
theorem dH_addByte_31 : decode cH_addByte 31 = .ok (.getfield 23, 3) := by decide +kernel
theorem dH_addByte_34 : decode cH_addByte 34 = .ok (.bipush 64, 2) := by decide +kernel
theorem dH_addByte_36 : decode cH_addByte 36 = .ok (.if_icmp .ne 16, 3) := by decide +kernel
theorem dH_addByte_39 : decode cH_addByte 39 = .ok (.aload_n 0, 1) := by decide +kernel
theorem dH_addByte_40 : decode cH_addByte 40 = .ok (.iconst 0, 1) := by decide +kernel
theorem dH_addByte_41 : decode cH_addByte 41 = .ok (.putfield 23, 3) := by decide +kernel
theorem dH_addByte_44 : decode cH_addByte 44 = .ok (.aload_n 0, 1) := by decide +kernel
theorem dH_addByte_45 : decode cH_addByte 45 = .ok (.invokevirtual 49, 3) := by decide +kernel
theorem dH_addByte_48 : decode cH_addByte 48 = .ok (.aload_n 0, 1) := by decide +kernel
theorem dH_addByte_49 : decode cH_addByte 49 = .ok (.invokevirtual 52, 3) := by decide +kernel
theorem dH_addByte_52 : decode cH_addByte 52 = .ok (.return_, 1) := by decide +kernel
theorem dH_spreadBlock_0 : decode cH_spreadBlock 0 = .ok (.iconst 0, 1) := by decide +kernel
theorem dH_spreadBlock_1 : decode cH_spreadBlock 1 = .ok (.istore_n 1, 1) := by decide +kernel
theorem dH_spreadBlock_2 : decode cH_spreadBlock 2 = .ok (.iload_n 1, 1) := by decide +kernel
theorem dH_spreadBlock_3 : decode cH_spreadBlock 3 = .ok (.bipush 16, 2) := by decide +kernel
theorem dH_spreadBlock_5 : decode cH_spreadBlock 5 = .ok (.if_icmp .ge 25, 3) := by decide +kernel
theorem dH_spreadBlock_8 : decode cH_spreadBlock 8 = .ok (.aload_n 0, 1) := by decide +kernel
theorem dH_spreadBlock_9 : decode cH_spreadBlock 9 = .ok (.getfield 13, 3) := by decide +kernel
theorem dH_spreadBlock_12 : decode cH_spreadBlock 12 = .ok (.iload_n 1, 1) := by decide +kernel
theorem dH_spreadBlock_13 : decode cH_spreadBlock 13 = .ok (.aload_n 0, 1) := by decide +kernel
theorem dH_spreadBlock_14 : decode cH_spreadBlock 14 = .ok (.getfield 19, 3) := by decide +kernel
theorem dH_spreadBlock_17 : decode cH_spreadBlock 17 = .ok (.iconst 4, 1) := by decide +kernel
theorem dH_spreadBlock_18 : decode cH_spreadBlock 18 = .ok (.iload_n 1, 1) := by decide +kernel
theorem dH_spreadBlock_19 : decode cH_spreadBlock 19 = .ok (.imul, 1) := by decide +kernel
theorem dH_spreadBlock_20 : decode cH_spreadBlock 20 = .ok (.invokestatic 55, 3) := by decide +kernel
theorem dH_spreadBlock_23 : decode cH_spreadBlock 23 = .ok (.iastore, 1) := by decide +kernel
theorem dH_spreadBlock_24 : decode cH_spreadBlock 24 = .ok (.iinc 1 1, 3) := by decide +kernel
theorem dH_spreadBlock_27 : decode cH_spreadBlock 27 = .ok (.goto (-25), 3) := by decide +kernel
theorem dH_spreadBlock_30 : decode cH_spreadBlock 30 = .ok (.bipush 16, 2) := by decide +kernel
theorem dH_spreadBlock_32 : decode cH_spreadBlock 32 = .ok (.istore_n 1, 1) := by decide +kernel
theorem dH_spreadBlock_33 : decode cH_spreadBlock 33 = .ok (.iload_n 1, 1) := by decide +kernel
theorem dH_spreadBlock_34 : decode cH_spreadBlock 34 = .ok (.bipush 64, 2) := by decide +kernel
theorem dH_spreadBlock_36 : decode cH_spreadBlock 36 = .ok (.if_icmp .ge 98, 3) := by decide +kernel
theorem dH_spreadBlock_39 : decode cH_spreadBlock 39 = .ok (.aload_n 0, 1) := by decide +kernel
theorem dH_spreadBlock_40 : decode cH_spreadBlock 40 = .ok (.getfield 13, 3) := by decide +kernel
theorem dH_spreadBlock_43 : decode cH_spreadBlock 43 = .ok (.iload_n 1, 1) := by decide +kernel
theorem dH_spreadBlock_44 : decode cH_spreadBlock 44 = .ok (.iconst 2, 1) := by decide +kernel
theorem dH_spreadBlock_45 : decode cH_spreadBlock 45 = .ok (.isub, 1) := by decide +kernel
theorem dH_spreadBlock_46 : decode cH_spreadBlock 46 = .ok (.iaload, 1) := by decide +kernel
theorem dH_spreadBlock_47 : decode cH_spreadBlock 47 = .ok (.istore_n 2, 1) := by decide +kernel
theorem dH_spreadBlock_48 : decode cH_spreadBlock 48 = .ok (.aload_n 0, 1) := by decide +kernel
theorem dH_spreadBlock_49 : decode cH_spreadBlock 49 = .ok (.getfield 13, 3) := by decide +kernel
theorem dH_spreadBlock_52 : decode cH_spreadBlock 52 = .ok (.iload_n 1, 1) := by decide +kernel
theorem dH_spreadBlock_53 : decode cH_spreadBlock 53 = .ok (.bipush 15, 2) := by decide +kernel
theorem dH_spreadBlock_55 : decode cH_spreadBlock 55 = .ok (.isub, 1) := by decide +kernel
theorem dH_spreadBlock_56 : decode cH_spreadBlock 56 = .ok (.iaload, 1) := by decide +kernel
theorem dH_spreadBlock_57 : decode cH_spreadBlock 57 = .ok (.istore_n 3, 1) := by decide +kernel
theorem dH_spreadBlock_58 : decode cH_spreadBlock 58 = .ok (.iload_n 2, 1) := by decide +kernel
theorem dH_spreadBlock_59 : decode cH_spreadBlock 59 = .ok (.bipush 17, 2) := by decide +kernel
theorem dH_spreadBlock_61 : decode cH_spreadBlock 61 = .ok (.invokestatic 59, 3) := by decide +kernel
theorem dH_spreadBlock_64 : decode cH_spreadBlock 64 = .ok (.iload_n 2, 1) := by decide +kernel
theorem dH_spreadBlock_65 : decode cH_spreadBlock 65 = .ok (.bipush 19, 2) := by decide +kernel
theorem dH_spreadBlock_67 : decode cH_spreadBlock 67 = .ok (.invokestatic 59, 3) := by decide +kernel
theorem dH_spreadBlock_70 : decode cH_spreadBlock 70 = .ok (.ixor, 1) := by decide +kernel
theorem dH_spreadBlock_71 : decode cH_spreadBlock 71 = .ok (.iload_n 2, 1) := by decide +kernel
theorem dH_spreadBlock_72 : decode cH_spreadBlock 72 = .ok (.bipush 10, 2) := by decide +kernel
theorem dH_spreadBlock_74 : decode cH_spreadBlock 74 = .ok (.iushr, 1) := by decide +kernel
theorem dH_spreadBlock_75 : decode cH_spreadBlock 75 = .ok (.ixor, 1) := by decide +kernel
theorem dH_spreadBlock_76 : decode cH_spreadBlock 76 = .ok (.istore 4, 2) := by decide +kernel
theorem dH_spreadBlock_78 : decode cH_spreadBlock 78 = .ok (.iload_n 3, 1) := by decide +kernel
theorem dH_spreadBlock_79 : decode cH_spreadBlock 79 = .ok (.bipush 7, 2) := by decide +kernel
theorem dH_spreadBlock_81 : decode cH_spreadBlock 81 = .ok (.invokestatic 59, 3) := by decide +kernel
theorem dH_spreadBlock_84 : decode cH_spreadBlock 84 = .ok (.iload_n 3, 1) := by decide +kernel
theorem dH_spreadBlock_85 : decode cH_spreadBlock 85 = .ok (.bipush 18, 2) := by decide +kernel
theorem dH_spreadBlock_87 : decode cH_spreadBlock 87 = .ok (.invokestatic 59, 3) := by decide +kernel
theorem dH_spreadBlock_90 : decode cH_spreadBlock 90 = .ok (.ixor, 1) := by decide +kernel
theorem dH_spreadBlock_91 : decode cH_spreadBlock 91 = .ok (.iload_n 3, 1) := by decide +kernel
theorem dH_spreadBlock_92 : decode cH_spreadBlock 92 = .ok (.iconst 3, 1) := by decide +kernel
theorem dH_spreadBlock_93 : decode cH_spreadBlock 93 = .ok (.iushr, 1) := by decide +kernel
theorem dH_spreadBlock_94 : decode cH_spreadBlock 94 = .ok (.ixor, 1) := by decide +kernel
theorem dH_spreadBlock_95 : decode cH_spreadBlock 95 = .ok (.istore 5, 2) := by decide +kernel
theorem dH_spreadBlock_97 : decode cH_spreadBlock 97 = .ok (.aload_n 0, 1) := by decide +kernel
theorem dH_spreadBlock_98 : decode cH_spreadBlock 98 = .ok (.getfield 13, 3) := by decide +kernel
theorem dH_spreadBlock_101 : decode cH_spreadBlock 101 = .ok (.iload_n 1, 1) := by decide +kernel
theorem dH_spreadBlock_102 : decode cH_spreadBlock 102 = .ok (.iload 4, 2) := by decide +kernel
theorem dH_spreadBlock_104 : decode cH_spreadBlock 104 = .ok (.aload_n 0, 1) := by decide +kernel
theorem dH_spreadBlock_105 : decode cH_spreadBlock 105 = .ok (.getfield 13, 3) := by decide +kernel
theorem dH_spreadBlock_108 : decode cH_spreadBlock 108 = .ok (.iload_n 1, 1) := by decide +kernel
theorem dH_spreadBlock_109 : decode cH_spreadBlock 109 = .ok (.bipush 7, 2) := by decide +kernel
theorem dH_spreadBlock_111 : decode cH_spreadBlock 111 = .ok (.isub, 1) := by decide +kernel
theorem dH_spreadBlock_112 : decode cH_spreadBlock 112 = .ok (.iaload, 1) := by decide +kernel
theorem dH_spreadBlock_113 : decode cH_spreadBlock 113 = .ok (.iadd, 1) := by decide +kernel
theorem dH_spreadBlock_114 : decode cH_spreadBlock 114 = .ok (.iload 5, 2) := by decide +kernel
theorem dH_spreadBlock_116 : decode cH_spreadBlock 116 = .ok (.iadd, 1) := by decide +kernel
theorem dH_spreadBlock_117 : decode cH_spreadBlock 117 = .ok (.aload_n 0, 1) := by decide +kernel
theorem dH_spreadBlock_118 : decode cH_spreadBlock 118 = .ok (.getfield 13, 3) := by decide +kernel
theorem dH_spreadBlock_121 : decode cH_spreadBlock 121 = .ok (.iload_n 1, 1) := by decide +kernel
theorem dH_spreadBlock_122 : decode cH_spreadBlock 122 = .ok (.bipush 16, 2) := by decide +kernel
theorem dH_spreadBlock_124 : decode cH_spreadBlock 124 = .ok (.isub, 1) := by decide +kernel
theorem dH_spreadBlock_125 : decode cH_spreadBlock 125 = .ok (.iaload, 1) := by decide +kernel
theorem dH_spreadBlock_126 : decode cH_spreadBlock 126 = .ok (.iadd, 1) := by decide +kernel
theorem dH_spreadBlock_127 : decode cH_spreadBlock 127 = .ok (.iastore, 1) := by decide +kernel
theorem dH_spreadBlock_128 : decode cH_spreadBlock 128 = .ok (.iinc 1 1, 3) := by decide +kernel
theorem dH_spreadBlock_131 : decode cH_spreadBlock 131 = .ok (.goto (-98), 3) := by decide +kernel
theorem dH_spreadBlock_134 : decode cH_spreadBlock 134 = .ok (.return_, 1) := by decide +kernel
theorem dH_mixBlock_0 : decode cH_mixBlock 0 = .ok (.aload_n 0, 1) := by decide +kernel
theorem dH_mixBlock_1 : decode cH_mixBlock 1 = .ok (.getfield 9, 3) := by decide +kernel
theorem dH_mixBlock_4 : decode cH_mixBlock 4 = .ok (.iconst 0, 1) := by decide +kernel
theorem dH_mixBlock_5 : decode cH_mixBlock 5 = .ok (.aload_n 0, 1) := by decide +kernel
theorem dH_mixBlock_6 : decode cH_mixBlock 6 = .ok (.getfield 16, 3) := by decide +kernel
theorem dH_mixBlock_9 : decode cH_mixBlock 9 = .ok (.iconst 0, 1) := by decide +kernel
theorem dH_mixBlock_10 : decode cH_mixBlock 10 = .ok (.bipush 8, 2) := by decide +kernel
theorem dH_mixBlock_12 : decode cH_mixBlock 12 = .ok (.invokestatic 33, 3) := by decide +kernel
theorem dH_mixBlock_15 : decode cH_mixBlock 15 = .ok (.iconst 0, 1) := by decide +kernel
theorem dH_mixBlock_16 : decode cH_mixBlock 16 = .ok (.istore_n 1, 1) := by decide +kernel
theorem dH_mixBlock_17 : decode cH_mixBlock 17 = .ok (.iload_n 1, 1) := by decide +kernel
theorem dH_mixBlock_18 : decode cH_mixBlock 18 = .ok (.bipush 64, 2) := by decide +kernel
theorem dH_mixBlock_20 : decode cH_mixBlock 20 = .ok (.if_icmp .ge 25, 3) := by decide +kernel
theorem dH_mixBlock_23 : decode cH_mixBlock 23 = .ok (.aload_n 0, 1) := by decide +kernel
theorem dH_mixBlock_24 : decode cH_mixBlock 24 = .ok (.aload_n 0, 1) := by decide +kernel
theorem dH_mixBlock_25 : decode cH_mixBlock 25 = .ok (.getfield 13, 3) := by decide +kernel
theorem dH_mixBlock_28 : decode cH_mixBlock 28 = .ok (.iload_n 1, 1) := by decide +kernel
theorem dH_mixBlock_29 : decode cH_mixBlock 29 = .ok (.iaload, 1) := by decide +kernel
theorem dH_mixBlock_30 : decode cH_mixBlock 30 = .ok (.getstatic 63, 3) := by decide +kernel
theorem dH_mixBlock_33 : decode cH_mixBlock 33 = .ok (.iload_n 1, 1) := by decide +kernel
theorem dH_mixBlock_34 : decode cH_mixBlock 34 = .ok (.iaload, 1) := by decide +kernel
theorem dH_mixBlock_35 : decode cH_mixBlock 35 = .ok (.iadd, 1) := by decide +kernel
theorem dH_mixBlock_36 : decode cH_mixBlock 36 = .ok (.invokevirtual 66, 3) := by decide +kernel
theorem dH_mixBlock_39 : decode cH_mixBlock 39 = .ok (.iinc 1 1, 3) := by decide +kernel
theorem dH_mixBlock_42 : decode cH_mixBlock 42 = .ok (.goto (-25), 3) := by decide +kernel
theorem dH_mixBlock_45 : decode cH_mixBlock 45 = .ok (.iconst 0, 1) := by decide +kernel
theorem dH_mixBlock_46 : decode cH_mixBlock 46 = .ok (.istore_n 1, 1) := by decide +kernel
theorem dH_mixBlock_47 : decode cH_mixBlock 47 = .ok (.iload_n 1, 1) := by decide +kernel
theorem dH_mixBlock_48 : decode cH_mixBlock 48 = .ok (.bipush 8, 2) := by decide +kernel
theorem dH_mixBlock_50 : decode cH_mixBlock 50 = .ok (.if_icmp .ge 24, 3) := by decide +kernel
theorem dH_mixBlock_53 : decode cH_mixBlock 53 = .ok (.aload_n 0, 1) := by decide +kernel
theorem dH_mixBlock_54 : decode cH_mixBlock 54 = .ok (.getfield 9, 3) := by decide +kernel
theorem dH_mixBlock_57 : decode cH_mixBlock 57 = .ok (.iload_n 1, 1) := by decide +kernel
theorem dH_mixBlock_58 : decode cH_mixBlock 58 = .ok (.dup2, 1) := by decide +kernel
theorem dH_mixBlock_59 : decode cH_mixBlock 59 = .ok (.iaload, 1) := by decide +kernel
theorem dH_mixBlock_60 : decode cH_mixBlock 60 = .ok (.aload_n 0, 1) := by decide +kernel
theorem dH_mixBlock_61 : decode cH_mixBlock 61 = .ok (.getfield 16, 3) := by decide +kernel
theorem dH_mixBlock_64 : decode cH_mixBlock 64 = .ok (.iload_n 1, 1) := by decide +kernel
theorem dH_mixBlock_65 : decode cH_mixBlock 65 = .ok (.iaload, 1) := by decide +kernel
theorem dH_mixBlock_66 : decode cH_mixBlock 66 = .ok (.iadd, 1) := by decide +kernel
theorem dH_mixBlock_67 : decode cH_mixBlock 67 = .ok (.iastore, 1) := by decide +kernel
theorem dH_mixBlock_68 : decode cH_mixBlock 68 = .ok (.iinc 1 1, 3) := by decide +kernel
theorem dH_mixBlock_71 : decode cH_mixBlock 71 = .ok (.goto (-24), 3) := by decide +kernel
theorem dH_mixBlock_74 : decode cH_mixBlock 74 = .ok (.return_, 1) := by decide +kernel
theorem dH_mixRound_0 : decode cH_mixRound 0 = .ok (.aload_n 0, 1) := by decide +kernel
theorem dH_mixRound_1 : decode cH_mixRound 1 = .ok (.getfield 16, 3) := by decide +kernel
theorem dH_mixRound_4 : decode cH_mixRound 4 = .ok (.iconst 0, 1) := by decide +kernel
theorem dH_mixRound_5 : decode cH_mixRound 5 = .ok (.iaload, 1) := by decide +kernel
theorem dH_mixRound_6 : decode cH_mixRound 6 = .ok (.istore_n 2, 1) := by decide +kernel
theorem dH_mixRound_7 : decode cH_mixRound 7 = .ok (.aload_n 0, 1) := by decide +kernel
theorem dH_mixRound_8 : decode cH_mixRound 8 = .ok (.getfield 16, 3) := by decide +kernel
theorem dH_mixRound_11 : decode cH_mixRound 11 = .ok (.iconst 4, 1) := by decide +kernel
theorem dH_mixRound_12 : decode cH_mixRound 12 = .ok (.iaload, 1) := by decide +kernel
theorem dH_mixRound_13 : decode cH_mixRound 13 = .ok (.istore_n 3, 1) := by decide +kernel
theorem dH_mixRound_14 : decode cH_mixRound 14 = .ok (.iload_n 3, 1) := by decide +kernel
theorem dH_mixRound_15 : decode cH_mixRound 15 = .ok (.aload_n 0, 1) := by decide +kernel
theorem dH_mixRound_16 : decode cH_mixRound 16 = .ok (.getfield 16, 3) := by decide +kernel
theorem dH_mixRound_19 : decode cH_mixRound 19 = .ok (.iconst 5, 1) := by decide +kernel
theorem dH_mixRound_20 : decode cH_mixRound 20 = .ok (.iaload, 1) := by decide +kernel
theorem dH_mixRound_21 : decode cH_mixRound 21 = .ok (.iand, 1) := by decide +kernel
theorem dH_mixRound_22 : decode cH_mixRound 22 = .ok (.iload_n 3, 1) := by decide +kernel
theorem dH_mixRound_23 : decode cH_mixRound 23 = .ok (.iconst (-1), 1) := by decide +kernel
theorem dH_mixRound_24 : decode cH_mixRound 24 = .ok (.ixor, 1) := by decide +kernel
theorem dH_mixRound_25 : decode cH_mixRound 25 = .ok (.aload_n 0, 1) := by decide +kernel
theorem dH_mixRound_26 : decode cH_mixRound 26 = .ok (.getfield 16, 3) := by decide +kernel
theorem dH_mixRound_29 : decode cH_mixRound 29 = .ok (.bipush 6, 2) := by decide +kernel
theorem dH_mixRound_31 : decode cH_mixRound 31 = .ok (.iaload, 1) := by decide +kernel
theorem dH_mixRound_32 : decode cH_mixRound 32 = .ok (.iand, 1) := by decide +kernel
theorem dH_mixRound_33 : decode cH_mixRound 33 = .ok (.ixor, 1) := by decide +kernel
theorem dH_mixRound_34 : decode cH_mixRound 34 = .ok (.istore 4, 2) := by decide +kernel
theorem dH_mixRound_36 : decode cH_mixRound 36 = .ok (.iload_n 2, 1) := by decide +kernel
theorem dH_mixRound_37 : decode cH_mixRound 37 = .ok (.aload_n 0, 1) := by decide +kernel
theorem dH_mixRound_38 : decode cH_mixRound 38 = .ok (.getfield 16, 3) := by decide +kernel
theorem dH_mixRound_41 : decode cH_mixRound 41 = .ok (.iconst 1, 1) := by decide +kernel
theorem dH_mixRound_42 : decode cH_mixRound 42 = .ok (.iaload, 1) := by decide +kernel
theorem dH_mixRound_43 : decode cH_mixRound 43 = .ok (.iand, 1) := by decide +kernel
theorem dH_mixRound_44 : decode cH_mixRound 44 = .ok (.iload_n 2, 1) := by decide +kernel
theorem dH_mixRound_45 : decode cH_mixRound 45 = .ok (.aload_n 0, 1) := by decide +kernel
theorem dH_mixRound_46 : decode cH_mixRound 46 = .ok (.getfield 16, 3) := by decide +kernel
theorem dH_mixRound_49 : decode cH_mixRound 49 = .ok (.iconst 2, 1) := by decide +kernel
theorem dH_mixRound_50 : decode cH_mixRound 50 = .ok (.iaload, 1) := by decide +kernel
theorem dH_mixRound_51 : decode cH_mixRound 51 = .ok (.iand, 1) := by decide +kernel
theorem dH_mixRound_52 : decode cH_mixRound 52 = .ok (.ixor, 1) := by decide +kernel
theorem dH_mixRound_53 : decode cH_mixRound 53 = .ok (.aload_n 0, 1) := by decide +kernel
theorem dH_mixRound_54 : decode cH_mixRound 54 = .ok (.getfield 16, 3) := by decide +kernel
theorem dH_mixRound_57 : decode cH_mixRound 57 = .ok (.iconst 1, 1) := by decide +kernel
theorem dH_mixRound_58 : decode cH_mixRound 58 = .ok (.iaload, 1) := by decide +kernel
theorem dH_mixRound_59 : decode cH_mixRound 59 = .ok (.aload_n 0, 1) := by decide +kernel
theorem dH_mixRound_60 : decode cH_mixRound 60 = .ok (.getfield 16, 3) := by decide +kernel
theorem dH_mixRound_63 : decode cH_mixRound 63 = .ok (.iconst 2, 1) := by decide +kernel
theorem dH_mixRound_64 : decode cH_mixRound 64 = .ok (.iaload, 1) := by decide +kernel
theorem dH_mixRound_65 : decode cH_mixRound 65 = .ok (.iand, 1) := by decide +kernel
theorem dH_mixRound_66 : decode cH_mixRound 66 = .ok (.ixor, 1) := by decide +kernel
theorem dH_mixRound_67 : decode cH_mixRound 67 = .ok (.istore 5, 2) := by decide +kernel
theorem dH_mixRound_69 : decode cH_mixRound 69 = .ok (.aload_n 0, 1) := by decide +kernel
theorem dH_mixRound_70 : decode cH_mixRound 70 = .ok (.getfield 16, 3) := by decide +kernel
theorem dH_mixRound_73 : decode cH_mixRound 73 = .ok (.bipush 7, 2) := by decide +kernel
theorem dH_mixRound_75 : decode cH_mixRound 75 = .ok (.iaload, 1) := by decide +kernel
theorem dH_mixRound_76 : decode cH_mixRound 76 = .ok (.iload_n 3, 1) := by decide +kernel
theorem dH_mixRound_77 : decode cH_mixRound 77 = .ok (.bipush 6, 2) := by decide +kernel
theorem dH_mixRound_79 : decode cH_mixRound 79 = .ok (.invokestatic 59, 3) := by decide +kernel
theorem dH_mixRound_82 : decode cH_mixRound 82 = .ok (.iload_n 3, 1) := by decide +kernel
theorem dH_mixRound_83 : decode cH_mixRound 83 = .ok (.bipush 11, 2) := by decide +kernel
theorem dH_mixRound_85 : decode cH_mixRound 85 = .ok (.invokestatic 59, 3) := by decide +kernel
theorem dH_mixRound_88 : decode cH_mixRound 88 = .ok (.ixor, 1) := by decide +kernel
theorem dH_mixRound_89 : decode cH_mixRound 89 = .ok (.iload_n 3, 1) := by decide +kernel
theorem dH_mixRound_90 : decode cH_mixRound 90 = .ok (.bipush 25, 2) := by decide +kernel
theorem dH_mixRound_92 : decode cH_mixRound 92 = .ok (.invokestatic 59, 3) := by decide +kernel
theorem dH_mixRound_95 : decode cH_mixRound 95 = .ok (.ixor, 1) := by decide +kernel
theorem dH_mixRound_96 : decode cH_mixRound 96 = .ok (.iadd, 1) := by decide +kernel
theorem dH_mixRound_97 : decode cH_mixRound 97 = .ok (.iload 4, 2) := by decide +kernel
theorem dH_mixRound_99 : decode cH_mixRound 99 = .ok (.iadd, 1) := by decide +kernel
theorem dH_mixRound_100 : decode cH_mixRound 100 = .ok (.iload_n 1, 1) := by decide +kernel
theorem dH_mixRound_101 : decode cH_mixRound 101 = .ok (.iadd, 1) := by decide +kernel
theorem dH_mixRound_102 : decode cH_mixRound 102 = .ok (.istore 6, 2) := by decide +kernel
theorem dH_mixRound_104 : decode cH_mixRound 104 = .ok (.iload_n 2, 1) := by decide +kernel
theorem dH_mixRound_105 : decode cH_mixRound 105 = .ok (.iconst 2, 1) := by decide +kernel
theorem dH_mixRound_106 : decode cH_mixRound 106 = .ok (.invokestatic 59, 3) := by decide +kernel
theorem dH_mixRound_109 : decode cH_mixRound 109 = .ok (.iload_n 2, 1) := by decide +kernel
theorem dH_mixRound_110 : decode cH_mixRound 110 = .ok (.bipush 13, 2) := by decide +kernel
theorem dH_mixRound_112 : decode cH_mixRound 112 = .ok (.invokestatic 59, 3) := by decide +kernel
theorem dH_mixRound_115 : decode cH_mixRound 115 = .ok (.ixor, 1) := by decide +kernel
theorem dH_mixRound_116 : decode cH_mixRound 116 = .ok (.iload_n 2, 1) := by decide +kernel
theorem dH_mixRound_117 : decode cH_mixRound 117 = .ok (.bipush 22, 2) := by decide +kernel
theorem dH_mixRound_119 : decode cH_mixRound 119 = .ok (.invokestatic 59, 3) := by decide +kernel
theorem dH_mixRound_122 : decode cH_mixRound 122 = .ok (.ixor, 1) := by decide +kernel
theorem dH_mixRound_123 : decode cH_mixRound 123 = .ok (.iload 5, 2) := by decide +kernel
theorem dH_mixRound_125 : decode cH_mixRound 125 = .ok (.iadd, 1) := by decide +kernel
theorem dH_mixRound_126 : decode cH_mixRound 126 = .ok (.istore 7, 2) := by decide +kernel
theorem dH_mixRound_128 : decode cH_mixRound 128 = .ok (.bipush 7, 2) := by decide +kernel
theorem dH_mixRound_130 : decode cH_mixRound 130 = .ok (.istore 8, 2) := by decide +kernel
theorem dH_mixRound_132 : decode cH_mixRound 132 = .ok (.iload 8, 2) := by decide +kernel
theorem dH_mixRound_134 : decode cH_mixRound 134 = .ok (.ifCond .le 25, 3) := by decide +kernel
theorem dH_mixRound_137 : decode cH_mixRound 137 = .ok (.aload_n 0, 1) := by decide +kernel
theorem dH_mixRound_138 : decode cH_mixRound 138 = .ok (.getfield 16, 3) := by decide +kernel
theorem dH_mixRound_141 : decode cH_mixRound 141 = .ok (.iload 8, 2) := by decide +kernel
theorem dH_mixRound_143 : decode cH_mixRound 143 = .ok (.aload_n 0, 1) := by decide +kernel
theorem dH_mixRound_144 : decode cH_mixRound 144 = .ok (.getfield 16, 3) := by decide +kernel
theorem dH_mixRound_147 : decode cH_mixRound 147 = .ok (.iload 8, 2) := by decide +kernel
theorem dH_mixRound_149 : decode cH_mixRound 149 = .ok (.iconst 1, 1) := by decide +kernel
theorem dH_mixRound_150 : decode cH_mixRound 150 = .ok (.isub, 1) := by decide +kernel
theorem dH_mixRound_151 : decode cH_mixRound 151 = .ok (.iaload, 1) := by decide +kernel
theorem dH_mixRound_152 : decode cH_mixRound 152 = .ok (.iastore, 1) := by decide +kernel
theorem dH_mixRound_153 : decode cH_mixRound 153 = .ok (.iinc 8 (-1), 3) := by decide +kernel
theorem dH_mixRound_156 : decode cH_mixRound 156 = .ok (.goto (-24), 3) := by decide +kernel
theorem dH_mixRound_159 : decode cH_mixRound 159 = .ok (.aload_n 0, 1) := by decide +kernel
theorem dH_mixRound_160 : decode cH_mixRound 160 = .ok (.getfield 16, 3) := by decide +kernel
theorem dH_mixRound_163 : decode cH_mixRound 163 = .ok (.iconst 4, 1) := by decide +kernel
theorem dH_mixRound_164 : decode cH_mixRound 164 = .ok (.dup2, 1) := by decide +kernel
theorem dH_mixRound_165 : decode cH_mixRound 165 = .ok (.iaload, 1) := by decide +kernel
theorem dH_mixRound_166 : decode cH_mixRound 166 = .ok (.iload 6, 2) := by decide +kernel
theorem dH_mixRound_168 : decode cH_mixRound 168 = .ok (.iadd, 1) := by decide +kernel
theorem dH_mixRound_169 : decode cH_mixRound 169 = .ok (.iastore, 1) := by decide +kernel
theorem dH_mixRound_170 : decode cH_mixRound 170 = .ok (.aload_n 0, 1) := by decide +kernel
theorem dH_mixRound_171 : decode cH_mixRound 171 = .ok (.getfield 16, 3) := by decide +kernel
theorem dH_mixRound_174 : decode cH_mixRound 174 = .ok (.iconst 0, 1) := by decide +kernel
theorem dH_mixRound_175 : decode cH_mixRound 175 = .ok (.iload 6, 2) := by decide +kernel
theorem dH_mixRound_177 : decode cH_mixRound 177 = .ok (.iload 7, 2) := by decide +kernel
theorem dH_mixRound_179 : decode cH_mixRound 179 = .ok (.iadd, 1) := by decide +kernel
theorem dH_mixRound_180 : decode cH_mixRound 180 = .ok (.iastore, 1) := by decide +kernel
theorem dH_mixRound_181 : decode cH_mixRound 181 = .ok (.return_, 1) := by decide +kernel
theorem dA_fill_0 : decode cA_fill 0 = .ok (.iconst 0, 1) := by decide +kernel
theorem dA_fill_1 : decode cA_fill 1 = .ok (.istore_n 2, 1) := by decide +kernel
theorem dA_fill_2 : decode cA_fill 2 = .ok (.aload_n 0, 1) := by decide +kernel
theorem dA_fill_3 : decode cA_fill 3 = .ok (.arraylength, 1) := by decide +kernel
theorem dA_fill_4 : decode cA_fill 4 = .ok (.istore_n 3, 1) := by decide +kernel
theorem dA_fill_5 : decode cA_fill 5 = .ok (.iload_n 2, 1) := by decide +kernel
theorem dA_fill_6 : decode cA_fill 6 = .ok (.iload_n 3, 1) := by decide +kernel
theorem dA_fill_7 : decode cA_fill 7 = .ok (.if_icmp .ge 13, 3) := by decide +kernel
theorem dA_fill_10 : decode cA_fill 10 = .ok (.aload_n 0, 1) := by decide +kernel
theorem dA_fill_11 : decode cA_fill 11 = .ok (.iload_n 2, 1) := by decide +kernel
theorem dA_fill_12 : decode cA_fill 12 = .ok (.iload_n 1, 1) := by decide +kernel
theorem dA_fill_13 : decode cA_fill 13 = .ok (.bastore, 1) := by decide +kernel
theorem dA_fill_14 : decode cA_fill 14 = .ok (.iinc 2 1, 3) := by decide +kernel
theorem dA_fill_17 : decode cA_fill 17 = .ok (.goto (-12), 3) := by decide +kernel
theorem dA_fill_20 : decode cA_fill 20 = .ok (.return_, 1) := by decide +kernel
end
section
/-! System.arraycopy out of a static array of ints (never written), into a row of ours. -/
section CT
variable {E : Ev} {nL : Nat} {g : Cx} {l0 : Launch} {cc : ByteArray} {own : String} {Ts : List Cond} {R0 : Room} {ws : va_W} {lv : List (Nat × Value)} {cells slots pc : Nat} {st : List Value}
theorem j_copyT (hg : Ok E nL g l0 cc own Ts R0) {C n d : String} {index a N n1 : Nat} {f h : Nat → Int32} {sp dp k : Int32} {ws' : va_W} (z q1 i j k0 : Nat) (hw4 : acW Ts own index) (hz : sT[z]? = some (C, n, d, .int, N, fun j => .int (f j))) (ha1 : ws[q1]? = some (aI E a n1 h)) (hsp : sp = nI i) (hdp : dp = nI j) (hk : k = nI k0) (h4 : i + k0 ≤ N) (h5 : j + k0 ≤ n1) (hN : N < 2147483648) (hn1 : n1 < 2147483648) (hfr : 1 ≤ R0.frames) (hlo : (st.map fun v => v.category).sum + (nativeFrameWords "java/lang/System" "arraycopy" 5 + 11) ≤ R0.locals) (hw : ws.set q1 (aI E a n1 (va_cpy f h i j k0)) = ws') (hd : decode cc pc = .ok (.invokestatic index, 3)) (kk : J E nL g ws' lv cells slots (pc + 3) st) : J E nL g ws lv cells slots pc (.int k :: .int dp :: .ref a :: .int sp :: .ref (E.2.2 z) :: st) := by
  obtain ⟨p, l, e, R, s, m, args, below, meth, c, A, Q⟩ := g
  have hRR := hg.2.2.2.2.2.2.2.2.1
  subst hRR
  subst hw hsp hdp hk
  intro H locs ls hP hD hS hl T hT X
  obtain ⟨cell, t1, t2, t3, t4, t5, t6, t7⟩ := (hg.2.2.2.2.2.2.2.1 z _ hz).2
  have t4 : N ≤ cell.slots.size := t4
  have t6 : ∀ j : Nat, j < N → cell.slots[j]? = some (.int (f j)) := t6
  have hlt : E.2.2 z < s.heap.size := (Array.getElem?_eq_some_iff.mp t1).1
  have hc0 : H[E.2.2 z]? = some cell := by rw [hS.2.1 _ hlt t7]; exact t1
  have hc1 : H[a]? = some (vp_cell E.2.1.2.1 (n1, .inl h)) := hP q1 _ ha1
  obtain ⟨t8, kA, hkA, cA, hkkA⟩ := t2
  obtain ⟨-, kB, hkB, cB, hkkB⟩ := (hg.2.2.2.2.2.1.2 1 (E.2.1.2.1, .int) rfl).1 n1 (fun j => .int (h j))
  have e1 : (nI i).toNatClampNeg = i := nI_clamp (by omega)
  have e2 : (nI j).toNatClampNeg = j := nI_clamp (by omega)
  have e3 : (nI k0).toNatClampNeg = k0 := nI_clamp (by omega)
  have hts := hg.2.2.2.2.1
  obtain ⟨vm', X', step⟩ := X.arraycopy hg.1 hg.2.2.2.1 (hts _ hw4.1) (hts _ hw4.2.1) (hts _ hw4.2.2.1) (hts _ hw4.2.2.2) (src := E.2.2 z) (dst := a) (cs := cell) (cd := vp_cell E.2.1.2.1 (n1, .inl h)) (srcPos := nI i) (destPos := nI j) (n := nI k0) (by rw [hT]; exact hc0) (by rw [hT]; exact hc1)
    t8 (fun _ q => by cases q) t3 (fun q => by cases q) hkA hkB hkkA hkkB (by simp [refKind]) (nI_pos (by omega)) (nI_pos (by omega)) (nI_pos (by omega))
    (by rw [nI_toInt (by omega), nI_toInt (by omega)]; omega)
    (by rw [nI_toInt (by omega), nI_toInt (by omega)]; show ¬ _ > ((arrV E.2.1.2.1 n1 (fun j => .int (h j))).slots.size : Int); rw [arrV_size]; omega)
    (fun vm₁ _ r hr => by
      rw [e3] at hr
      have er : cell.slots.getD ((nI i).toNatClampNeg + r) .null = .int (f (i + r)) := by
        rw [e1, Array.getD_eq_getD_getElem?, t6 _ (by omega)]
        rfl
      rw [er]
      exact ⟨rfl, trivial⟩)
    (g := F0 m pc ls (.int (nI k0) :: .int (nI j) :: .ref a :: .int (nI i) :: .ref (E.2.2 z) :: st)) rfl (by rw [hg.2.2.1]; exact hl.1) (rest := st) rfl (by rw [hg.2.1]; exact hd) hfr (by show 2 * 0 + _ + _ ≤ _; omega)
  have ec : copied cell (vp_cell E.2.1.2.1 (n1, .inl h)) (nI i) (nI j) (nI k0) = vp_cell E.2.1.2.1 (n1, .inl (va_cpy f h i j k0)) := by
    have := va_copiedX (n0 := N) (sp := (nI i).toNatClampNeg) (dp := (nI j).toNatClampNeg) (n := (nI k0).toNatClampNeg) (n1 := n1) (fun z : Int32 => Value.int z) cell E.2.1.2.1 f h t6 (by rw [e1, e3]; exact h4)
    rw [e1, e2, e3] at this
    refine Eq.trans ?_ this
    unfold copied
    rw [e1, e2, e3]
    rfl
  rw [ec] at X' step
  have hla : a < H.size := (Array.getElem?_eq_some_iff.mp hc1).1
  have hheap : ((T.setVm vm').setCell a (vp_cell E.2.1.2.1 (n1, .inl (va_cpy f h i j k0)))).heap = H.setIfInBounds a (vp_cell E.2.1.2.1 (n1, .inl (va_cpy f h i j k0))) := by rw [← hT]; rfl
  have oq : ∀ q : Nat, q ≠ a → (H.setIfInBounds a (vp_cell E.2.1.2.1 (n1, .inl (va_cpy f h i j k0))))[q]? = H[q]? := fun q hq => by simp [Array.getElem?_setIfInBounds, Ne.symm hq]
  obtain ⟨t, a1, b1⟩ := kk _ _ ls (hP.set hD ha1 (show (H.setIfInBounds a _)[a]? = some _ by simp [Array.getElem?_setIfInBounds, hla]) oq) (hD.set ha1) ⟨by simp; exact hS.1, fun q g1 g2 => by
      rw [oq q (fun e => g2 (by rw [e]; exact hD.2 q1 _ ha1))]
      exact hS.2.1 q g1 g2, fun q hq => by
      rcases List.mem_append.mp hq with h | h
      · exact hS.2.2 q h
      · obtain ⟨z, -, hz⟩ := List.mem_map.mp h
        rw [← hz]
        exact hD.2 q1 _ ha1⟩ hl _ hheap X'
  exact ⟨t, step t a1, b1⟩
end CT
end
section
def rm_S_writeHighestFirst : Room := { frames := 0, cells := 0, slots := 0, locals := 0 }
set_option maxHeartbeats 1000000 in
set_option maxRecDepth 100000 in
theorem c_S_writeHighestFirst (l : Launch) (E : Ev) (a n : Nat) (f : Nat → Int32) (k : Nat) (v : Int32) (h1 : k + 4 ≤ n) (h2 : n < 2147483648) : MC E l yS_writeHighestFirst (cT yS_writeHighestFirst cS_writeHighestFirst 3 none) rm_S_writeHighestFirst [.ref a, .int (nI k), .int v] [aB E a n f] Unit (fun _ => True) (fun _ => none) (fun _ => [aB E a n (wh f k v)]) := by
  refine MC.of (cc := cS_writeHighestFirst) (nL := 3) (ret := none) (by decide) rfl cT_in (Nat.le_of_ble_eq_true rfl) (fun g hg hR => ?_)
  show J E 3 g [aB E a n f] [(0, .ref a), (1, .int (nI k)), (2, .int v)] 0 0 0 []
  refine j_aload_n hg 0 dS_writeHighestFirst_0 rfl rfl ?_
  refine j_iload_n hg 1 dS_writeHighestFirst_1 rfl rfl ?_
  refine j_iload_n hg 2 dS_writeHighestFirst_2 rfl rfl ?_
  refine j_bipush hg (v := 24) dS_writeHighestFirst_3 (by decide) ?_
  refine j_iushr hg (v := ushr v 24) dS_writeHighestFirst_5 rfl ?_
  refine j_i2b hg (v := sB (ushr v 24)) dS_writeHighestFirst_6 rfl ?_
  refine j_bast hg (ws' := [aB E a n (upd f k (sB (ushr v 24)))]) 0 k rfl rfl (by omega) (by omega) (sB_nar _) rfl dS_writeHighestFirst_7 ?_
  refine j_aload_n hg 0 dS_writeHighestFirst_8 rfl rfl ?_
  refine j_iload_n hg 1 dS_writeHighestFirst_9 rfl rfl ?_
  refine j_iconst hg (v := 1) dS_writeHighestFirst_10 (by decide) ?_
  refine j_iadd hg (v := nI (k + 1)) dS_writeHighestFirst_11 (nI_add k 1) ?_
  refine j_iload_n hg 2 dS_writeHighestFirst_12 rfl rfl ?_
  refine j_bipush hg (v := 16) dS_writeHighestFirst_13 (by decide) ?_
  refine j_iushr hg (v := ushr v 16) dS_writeHighestFirst_15 rfl ?_
  refine j_i2b hg (v := sB (ushr v 16)) dS_writeHighestFirst_16 rfl ?_
  refine j_bast hg (ws' := [aB E a n (upd (upd f k (sB (ushr v 24))) (k + 1) (sB (ushr v 16)))]) 0 (k + 1) rfl rfl (by omega) (by omega) (sB_nar _) rfl dS_writeHighestFirst_17 ?_
  refine j_aload_n hg 0 dS_writeHighestFirst_18 rfl rfl ?_
  refine j_iload_n hg 1 dS_writeHighestFirst_19 rfl rfl ?_
  refine j_iconst hg (v := 2) dS_writeHighestFirst_20 (by decide) ?_
  refine j_iadd hg (v := nI (k + 2)) dS_writeHighestFirst_21 (nI_add k 2) ?_
  refine j_iload_n hg 2 dS_writeHighestFirst_22 rfl rfl ?_
  refine j_bipush hg (v := 8) dS_writeHighestFirst_23 (by decide) ?_
  refine j_iushr hg (v := ushr v 8) dS_writeHighestFirst_25 rfl ?_
  refine j_i2b hg (v := sB (ushr v 8)) dS_writeHighestFirst_26 rfl ?_
  refine j_bast hg (ws' := [aB E a n (upd (upd (upd f k (sB (ushr v 24))) (k + 1) (sB (ushr v 16))) (k + 2) (sB (ushr v 8)))]) 0 (k + 2) rfl rfl (by omega) (by omega) (sB_nar _) rfl dS_writeHighestFirst_27 ?_
  refine j_aload_n hg 0 dS_writeHighestFirst_28 rfl rfl ?_
  refine j_iload_n hg 1 dS_writeHighestFirst_29 rfl rfl ?_
  refine j_iconst hg (v := 3) dS_writeHighestFirst_30 (by decide) ?_
  refine j_iadd hg (v := nI (k + 3)) dS_writeHighestFirst_31 (nI_add k 3) ?_
  refine j_iload_n hg 2 dS_writeHighestFirst_32 rfl rfl ?_
  refine j_i2b hg (v := sB v) dS_writeHighestFirst_33 rfl ?_
  refine j_bast hg (ws' := [aB E a n (upd (upd (upd (upd f k (sB (ushr v 24))) (k + 1) (sB (ushr v 16))) (k + 2) (sB (ushr v 8))) (k + 3) (sB v))]) 0 (k + 3) rfl rfl (by omega) (by omega) (sB_nar _) rfl dS_writeHighestFirst_34 ?_
  exact j_vret hg hR () trivial rfl [0] rfl (by decide) (by decide) (by decide) dS_writeHighestFirst_35

def rm_S_writeLowestFirst : Room := { frames := 0, cells := 0, slots := 0, locals := 0 }
set_option maxHeartbeats 1000000 in
set_option maxRecDepth 100000 in
theorem c_S_writeLowestFirst (l : Launch) (E : Ev) (a n : Nat) (f : Nat → Int32) (k : Nat) (v : Int32) (h1 : k + 4 ≤ n) (h2 : n < 2147483648) : MC E l yS_writeLowestFirst (cT yS_writeLowestFirst cS_writeLowestFirst 3 none) rm_S_writeLowestFirst [.ref a, .int (nI k), .int v] [aB E a n f] Unit (fun _ => True) (fun _ => none) (fun _ => [aB E a n (wl f k v)]) := by
  refine MC.of (cc := cS_writeLowestFirst) (nL := 3) (ret := none) (by decide) rfl cT_in (Nat.le_of_ble_eq_true rfl) (fun g hg hR => ?_)
  show J E 3 g [aB E a n f] [(0, .ref a), (1, .int (nI k)), (2, .int v)] 0 0 0 []
  refine j_aload_n hg 0 dS_writeLowestFirst_0 rfl rfl ?_
  refine j_iload_n hg 1 dS_writeLowestFirst_1 rfl rfl ?_
  refine j_iload_n hg 2 dS_writeLowestFirst_2 rfl rfl ?_
  refine j_i2b hg (v := sB v) dS_writeLowestFirst_3 rfl ?_
  refine j_bast hg (ws' := [aB E a n (upd f k (sB v))]) 0 k rfl rfl (by omega) (by omega) (sB_nar _) rfl dS_writeLowestFirst_4 ?_
  refine j_aload_n hg 0 dS_writeLowestFirst_5 rfl rfl ?_
  refine j_iload_n hg 1 dS_writeLowestFirst_6 rfl rfl ?_
  refine j_iconst hg (v := 1) dS_writeLowestFirst_7 (by decide) ?_
  refine j_iadd hg (v := nI (k + 1)) dS_writeLowestFirst_8 (nI_add k 1) ?_
  refine j_iload_n hg 2 dS_writeLowestFirst_9 rfl rfl ?_
  refine j_bipush hg (v := 8) dS_writeLowestFirst_10 (by decide) ?_
  refine j_iushr hg (v := ushr v 8) dS_writeLowestFirst_12 rfl ?_
  refine j_i2b hg (v := sB (ushr v 8)) dS_writeLowestFirst_13 rfl ?_
  refine j_bast hg (ws' := [aB E a n (upd (upd f k (sB v)) (k + 1) (sB (ushr v 8)))]) 0 (k + 1) rfl rfl (by omega) (by omega) (sB_nar _) rfl dS_writeLowestFirst_14 ?_
  refine j_aload_n hg 0 dS_writeLowestFirst_15 rfl rfl ?_
  refine j_iload_n hg 1 dS_writeLowestFirst_16 rfl rfl ?_
  refine j_iconst hg (v := 2) dS_writeLowestFirst_17 (by decide) ?_
  refine j_iadd hg (v := nI (k + 2)) dS_writeLowestFirst_18 (nI_add k 2) ?_
  refine j_iload_n hg 2 dS_writeLowestFirst_19 rfl rfl ?_
  refine j_bipush hg (v := 16) dS_writeLowestFirst_20 (by decide) ?_
  refine j_iushr hg (v := ushr v 16) dS_writeLowestFirst_22 rfl ?_
  refine j_i2b hg (v := sB (ushr v 16)) dS_writeLowestFirst_23 rfl ?_
  refine j_bast hg (ws' := [aB E a n (upd (upd (upd f k (sB v)) (k + 1) (sB (ushr v 8))) (k + 2) (sB (ushr v 16)))]) 0 (k + 2) rfl rfl (by omega) (by omega) (sB_nar _) rfl dS_writeLowestFirst_24 ?_
  refine j_aload_n hg 0 dS_writeLowestFirst_25 rfl rfl ?_
  refine j_iload_n hg 1 dS_writeLowestFirst_26 rfl rfl ?_
  refine j_iconst hg (v := 3) dS_writeLowestFirst_27 (by decide) ?_
  refine j_iadd hg (v := nI (k + 3)) dS_writeLowestFirst_28 (nI_add k 3) ?_
  refine j_iload_n hg 2 dS_writeLowestFirst_29 rfl rfl ?_
  refine j_bipush hg (v := 24) dS_writeLowestFirst_30 (by decide) ?_
  refine j_iushr hg (v := ushr v 24) dS_writeLowestFirst_32 rfl ?_
  refine j_i2b hg (v := sB (ushr v 24)) dS_writeLowestFirst_33 rfl ?_
  refine j_bast hg (ws' := [aB E a n (upd (upd (upd (upd f k (sB v)) (k + 1) (sB (ushr v 8))) (k + 2) (sB (ushr v 16))) (k + 3) (sB (ushr v 24)))]) 0 (k + 3) rfl rfl (by omega) (by omega) (sB_nar _) rfl dS_writeLowestFirst_34 ?_
  exact j_vret hg hR () trivial rfl [0] rfl (by decide) (by decide) (by decide) dS_writeLowestFirst_35

def rm_S_readHighestFirst : Room := { frames := 0, cells := 0, slots := 0, locals := 0 }
set_option maxHeartbeats 1000000 in
set_option maxRecDepth 100000 in
theorem c_S_readHighestFirst (l : Launch) (E : Ev) (a n : Nat) (f : Nat → Int32) (k : Nat) (h1 : k + 4 ≤ n) (h2 : n < 2147483648) : MC E l yS_readHighestFirst (cT yS_readHighestFirst cS_readHighestFirst 2 (some .int)) rm_S_readHighestFirst [.ref a, .int (nI k)] [aB E a n f] Unit (fun _ => True) (fun _ => some (.int (rh f k))) (fun _ => [aB E a n f]) := by
  refine MC.of (cc := cS_readHighestFirst) (nL := 2) (ret := (some .int)) (by decide) rfl cT_in (Nat.le_of_ble_eq_true rfl) (fun g hg hR => ?_)
  show J E 2 g [aB E a n f] [(0, .ref a), (1, .int (nI k))] 0 0 0 []
  refine j_aload_n hg 0 dS_readHighestFirst_0 rfl rfl ?_
  refine j_iload_n hg 1 dS_readHighestFirst_1 rfl rfl ?_
  refine j_bald hg (v := f k) 0 k rfl rfl (by omega) (by omega) rfl dS_readHighestFirst_2 ?_
  refine j_sipush hg (v := 255) dS_readHighestFirst_3 (by decide) ?_
  refine j_iand hg (v := (f k) &&& 255) dS_readHighestFirst_6 rfl ?_
  refine j_bipush hg (v := 24) dS_readHighestFirst_7 (by decide) ?_
  refine j_ishl hg (v := shl ((f k) &&& 255) 24) dS_readHighestFirst_9 rfl ?_
  refine j_aload_n hg 0 dS_readHighestFirst_10 rfl rfl ?_
  refine j_iload_n hg 1 dS_readHighestFirst_11 rfl rfl ?_
  refine j_iconst hg (v := 1) dS_readHighestFirst_12 (by decide) ?_
  refine j_iadd hg (v := nI (k + 1)) dS_readHighestFirst_13 (nI_add k 1) ?_
  refine j_bald hg (v := f (k + 1)) 0 (k + 1) rfl rfl (by omega) (by omega) rfl dS_readHighestFirst_14 ?_
  refine j_sipush hg (v := 255) dS_readHighestFirst_15 (by decide) ?_
  refine j_iand hg (v := (f (k + 1)) &&& 255) dS_readHighestFirst_18 rfl ?_
  refine j_bipush hg (v := 16) dS_readHighestFirst_19 (by decide) ?_
  refine j_ishl hg (v := shl ((f (k + 1)) &&& 255) 16) dS_readHighestFirst_21 rfl ?_
  refine j_ior hg (v := (shl ((f k) &&& 255) 24) ||| (shl ((f (k + 1)) &&& 255) 16)) dS_readHighestFirst_22 rfl ?_
  refine j_aload_n hg 0 dS_readHighestFirst_23 rfl rfl ?_
  refine j_iload_n hg 1 dS_readHighestFirst_24 rfl rfl ?_
  refine j_iconst hg (v := 2) dS_readHighestFirst_25 (by decide) ?_
  refine j_iadd hg (v := nI (k + 2)) dS_readHighestFirst_26 (nI_add k 2) ?_
  refine j_bald hg (v := f (k + 2)) 0 (k + 2) rfl rfl (by omega) (by omega) rfl dS_readHighestFirst_27 ?_
  refine j_sipush hg (v := 255) dS_readHighestFirst_28 (by decide) ?_
  refine j_iand hg (v := (f (k + 2)) &&& 255) dS_readHighestFirst_31 rfl ?_
  refine j_bipush hg (v := 8) dS_readHighestFirst_32 (by decide) ?_
  refine j_ishl hg (v := shl ((f (k + 2)) &&& 255) 8) dS_readHighestFirst_34 rfl ?_
  refine j_ior hg (v := ((shl ((f k) &&& 255) 24) ||| (shl ((f (k + 1)) &&& 255) 16)) ||| (shl ((f (k + 2)) &&& 255) 8)) dS_readHighestFirst_35 rfl ?_
  refine j_aload_n hg 0 dS_readHighestFirst_36 rfl rfl ?_
  refine j_iload_n hg 1 dS_readHighestFirst_37 rfl rfl ?_
  refine j_iconst hg (v := 3) dS_readHighestFirst_38 (by decide) ?_
  refine j_iadd hg (v := nI (k + 3)) dS_readHighestFirst_39 (nI_add k 3) ?_
  refine j_bald hg (v := f (k + 3)) 0 (k + 3) rfl rfl (by omega) (by omega) rfl dS_readHighestFirst_40 ?_
  refine j_sipush hg (v := 255) dS_readHighestFirst_41 (by decide) ?_
  refine j_iand hg (v := (f (k + 3)) &&& 255) dS_readHighestFirst_44 rfl ?_
  refine j_ior hg (v := (((shl ((f k) &&& 255) 24) ||| (shl ((f (k + 1)) &&& 255) 16)) ||| (shl ((f (k + 2)) &&& 255) 8)) ||| ((f (k + 3)) &&& 255)) dS_readHighestFirst_45 rfl ?_
  exact j_iret hg hR rfl () trivial rfl [0] rfl (by decide) (by decide) (by decide) dS_readHighestFirst_46

def rm_S_readLowestFirst : Room := { frames := 0, cells := 0, slots := 0, locals := 0 }
set_option maxHeartbeats 1000000 in
set_option maxRecDepth 100000 in
theorem c_S_readLowestFirst (l : Launch) (E : Ev) (a n : Nat) (f : Nat → Int32) (k : Nat) (h1 : k + 4 ≤ n) (h2 : n < 2147483648) : MC E l yS_readLowestFirst (cT yS_readLowestFirst cS_readLowestFirst 2 (some .int)) rm_S_readLowestFirst [.ref a, .int (nI k)] [aB E a n f] Unit (fun _ => True) (fun _ => some (.int (rl f k))) (fun _ => [aB E a n f]) := by
  refine MC.of (cc := cS_readLowestFirst) (nL := 2) (ret := (some .int)) (by decide) rfl cT_in (Nat.le_of_ble_eq_true rfl) (fun g hg hR => ?_)
  show J E 2 g [aB E a n f] [(0, .ref a), (1, .int (nI k))] 0 0 0 []
  refine j_aload_n hg 0 dS_readLowestFirst_0 rfl rfl ?_
  refine j_iload_n hg 1 dS_readLowestFirst_1 rfl rfl ?_
  refine j_bald hg (v := f k) 0 k rfl rfl (by omega) (by omega) rfl dS_readLowestFirst_2 ?_
  refine j_sipush hg (v := 255) dS_readLowestFirst_3 (by decide) ?_
  refine j_iand hg (v := (f k) &&& 255) dS_readLowestFirst_6 rfl ?_
  refine j_aload_n hg 0 dS_readLowestFirst_7 rfl rfl ?_
  refine j_iload_n hg 1 dS_readLowestFirst_8 rfl rfl ?_
  refine j_iconst hg (v := 1) dS_readLowestFirst_9 (by decide) ?_
  refine j_iadd hg (v := nI (k + 1)) dS_readLowestFirst_10 (nI_add k 1) ?_
  refine j_bald hg (v := f (k + 1)) 0 (k + 1) rfl rfl (by omega) (by omega) rfl dS_readLowestFirst_11 ?_
  refine j_sipush hg (v := 255) dS_readLowestFirst_12 (by decide) ?_
  refine j_iand hg (v := (f (k + 1)) &&& 255) dS_readLowestFirst_15 rfl ?_
  refine j_bipush hg (v := 8) dS_readLowestFirst_16 (by decide) ?_
  refine j_ishl hg (v := shl ((f (k + 1)) &&& 255) 8) dS_readLowestFirst_18 rfl ?_
  refine j_ior hg (v := ((f k) &&& 255) ||| (shl ((f (k + 1)) &&& 255) 8)) dS_readLowestFirst_19 rfl ?_
  refine j_aload_n hg 0 dS_readLowestFirst_20 rfl rfl ?_
  refine j_iload_n hg 1 dS_readLowestFirst_21 rfl rfl ?_
  refine j_iconst hg (v := 2) dS_readLowestFirst_22 (by decide) ?_
  refine j_iadd hg (v := nI (k + 2)) dS_readLowestFirst_23 (nI_add k 2) ?_
  refine j_bald hg (v := f (k + 2)) 0 (k + 2) rfl rfl (by omega) (by omega) rfl dS_readLowestFirst_24 ?_
  refine j_sipush hg (v := 255) dS_readLowestFirst_25 (by decide) ?_
  refine j_iand hg (v := (f (k + 2)) &&& 255) dS_readLowestFirst_28 rfl ?_
  refine j_bipush hg (v := 16) dS_readLowestFirst_29 (by decide) ?_
  refine j_ishl hg (v := shl ((f (k + 2)) &&& 255) 16) dS_readLowestFirst_31 rfl ?_
  refine j_ior hg (v := (((f k) &&& 255) ||| (shl ((f (k + 1)) &&& 255) 8)) ||| (shl ((f (k + 2)) &&& 255) 16)) dS_readLowestFirst_32 rfl ?_
  refine j_aload_n hg 0 dS_readLowestFirst_33 rfl rfl ?_
  refine j_iload_n hg 1 dS_readLowestFirst_34 rfl rfl ?_
  refine j_iconst hg (v := 3) dS_readLowestFirst_35 (by decide) ?_
  refine j_iadd hg (v := nI (k + 3)) dS_readLowestFirst_36 (nI_add k 3) ?_
  refine j_bald hg (v := f (k + 3)) 0 (k + 3) rfl rfl (by omega) (by omega) rfl dS_readLowestFirst_37 ?_
  refine j_sipush hg (v := 255) dS_readLowestFirst_38 (by decide) ?_
  refine j_iand hg (v := (f (k + 3)) &&& 255) dS_readLowestFirst_41 rfl ?_
  refine j_bipush hg (v := 24) dS_readLowestFirst_42 (by decide) ?_
  refine j_ishl hg (v := shl ((f (k + 3)) &&& 255) 24) dS_readLowestFirst_44 rfl ?_
  refine j_ior hg (v := ((((f k) &&& 255) ||| (shl ((f (k + 1)) &&& 255) 8)) ||| (shl ((f (k + 2)) &&& 255) 16)) ||| (shl ((f (k + 3)) &&& 255) 24)) dS_readLowestFirst_45 rfl ?_
  exact j_iret hg hR rfl () trivial rfl [0] rfl (by decide) (by decide) (by decide) dS_readLowestFirst_46

def rm_S_turnLeft : Room := { frames := 0, cells := 0, slots := 0, locals := 0 }
set_option maxHeartbeats 1000000 in
set_option maxRecDepth 100000 in
theorem c_S_turnLeft (l : Launch) (E : Ev) (v b : Int32) : MC E l yS_turnLeft (cT yS_turnLeft cS_turnLeft 2 (some .int)) rm_S_turnLeft [.int v, .int b] [] Unit (fun _ => True) (fun _ => some (.int (tl v b))) (fun _ => []) := by
  refine MC.of (cc := cS_turnLeft) (nL := 2) (ret := (some .int)) (by decide) rfl cT_in (Nat.le_of_ble_eq_true rfl) (fun g hg hR => ?_)
  show J E 2 g [] [(0, .int v), (1, .int b)] 0 0 0 []
  refine j_iload_n hg 0 dS_turnLeft_0 rfl rfl ?_
  refine j_iload_n hg 1 dS_turnLeft_1 rfl rfl ?_
  refine j_ishl hg (v := shl v b) dS_turnLeft_2 rfl ?_
  refine j_iload_n hg 0 dS_turnLeft_3 rfl rfl ?_
  refine j_bipush hg (v := 32) dS_turnLeft_4 (by decide) ?_
  refine j_iload_n hg 1 dS_turnLeft_6 rfl rfl ?_
  refine j_isub hg (v := 32 - b) dS_turnLeft_7 rfl ?_
  refine j_iushr hg (v := ushr v (32 - b)) dS_turnLeft_8 rfl ?_
  refine j_ior hg (v := (shl v b) ||| (ushr v (32 - b))) dS_turnLeft_9 rfl ?_
  exact j_iret hg hR rfl () trivial rfl [] rfl (by decide) (by decide) (by decide) dS_turnLeft_10

def rm_S_turnRight : Room := { frames := 0, cells := 0, slots := 0, locals := 0 }
set_option maxHeartbeats 1000000 in
set_option maxRecDepth 100000 in
theorem c_S_turnRight (l : Launch) (E : Ev) (v b : Int32) : MC E l yS_turnRight (cT yS_turnRight cS_turnRight 2 (some .int)) rm_S_turnRight [.int v, .int b] [] Unit (fun _ => True) (fun _ => some (.int (tr v b))) (fun _ => []) := by
  refine MC.of (cc := cS_turnRight) (nL := 2) (ret := (some .int)) (by decide) rfl cT_in (Nat.le_of_ble_eq_true rfl) (fun g hg hR => ?_)
  show J E 2 g [] [(0, .int v), (1, .int b)] 0 0 0 []
  refine j_iload_n hg 0 dS_turnRight_0 rfl rfl ?_
  refine j_iload_n hg 1 dS_turnRight_1 rfl rfl ?_
  refine j_iushr hg (v := ushr v b) dS_turnRight_2 rfl ?_
  refine j_iload_n hg 0 dS_turnRight_3 rfl rfl ?_
  refine j_bipush hg (v := 32) dS_turnRight_4 (by decide) ?_
  refine j_iload_n hg 1 dS_turnRight_6 rfl rfl ?_
  refine j_isub hg (v := 32 - b) dS_turnRight_7 rfl ?_
  refine j_ishl hg (v := shl v (32 - b)) dS_turnRight_8 rfl ?_
  refine j_ior hg (v := (ushr v b) ||| (shl v (32 - b))) dS_turnRight_9 rfl ?_
  exact j_iret hg hR rfl () trivial rfl [] rfl (by decide) (by decide) (by decide) dS_turnRight_10
end
section
def rm_C_mixQuarter : Room := { frames := 1, cells := 0, slots := 0, locals := 21 }
set_option maxHeartbeats 1000000 in
set_option maxRecDepth 100000 in
theorem c_C_mixQuarter (l : Launch) (E : Ev) (h p q : Nat) (f : Nat → Int32) (a b c d : Nat) (ha : a < 16) (hb : b < 16) (hc : c < 16) (hd : d < 16) : MC E l yC_mixQuarter (cT yC_mixQuarter cC_mixQuarter 5 none) rm_C_mixQuarter [.ref h, .int (nI a), .int (nI b), .int (nI c), .int (nI d)] [ob h 0 [.ref p, .ref q], aI E q 16 f] Unit (fun _ => True) (fun _ => none) (fun _ => [ob h 0 [.ref p, .ref q], aI E q 16 (qr f a b c d)]) := by
  refine MC.of (cc := cC_mixQuarter) (nL := 5) (ret := none) (by decide) rfl cT_in (Nat.le_of_ble_eq_true rfl) (fun g hg hR => ?_)
  show J E 5 g [ob h 0 [.ref p, .ref q], aI E q 16 f] [(0, .ref h), (1, .int (nI a)), (2, .int (nI b)), (3, .int (nI c)), (4, .int (nI d))] 0 0 0 []
  refine j_aload_n hg 0 dC_mixQuarter_0 rfl rfl ?_
  refine j_get hg (C := RX0) (T := TX0) (N := 2) inX0 0 rfl rfl 1 (by decide) m24 rfl dC_mixQuarter_1 ?_
  refine j_iload_n hg 1 dC_mixQuarter_4 rfl rfl ?_
  refine j_dup2_11 hg dC_mixQuarter_5 rfl rfl ?_
  refine j_iald hg (v := f a) 1 a rfl rfl (by omega) (by omega) rfl dC_mixQuarter_6 ?_
  refine j_aload_n hg 0 dC_mixQuarter_7 rfl rfl ?_
  refine j_get hg (C := RX0) (T := TX0) (N := 2) inX0 0 rfl rfl 1 (by decide) m24 rfl dC_mixQuarter_8 ?_
  refine j_iload_n hg 2 dC_mixQuarter_11 rfl rfl ?_
  refine j_iald hg (v := f b) 1 b rfl rfl (by omega) (by omega) rfl dC_mixQuarter_12 ?_
  refine j_iadd hg (v := (f a) + (f b)) dC_mixQuarter_13 rfl ?_
  refine j_iast hg (ws' := [ob h 0 [.ref p, .ref q], aI E q 16 (qa f a b)]) 1 a rfl rfl (by omega) (by omega) rfl dC_mixQuarter_14 ?_
  refine j_aload_n hg 0 dC_mixQuarter_15 rfl rfl ?_
  refine j_get hg (C := RX0) (T := TX0) (N := 2) inX0 0 rfl rfl 1 (by decide) m24 rfl dC_mixQuarter_16 ?_
  refine j_iload hg 4 dC_mixQuarter_19 rfl ?_
  refine j_aload_n hg 0 dC_mixQuarter_21 rfl rfl ?_
  refine j_get hg (C := RX0) (T := TX0) (N := 2) inX0 0 rfl rfl 1 (by decide) m24 rfl dC_mixQuarter_22 ?_
  refine j_iload hg 4 dC_mixQuarter_25 rfl ?_
  refine j_iald hg (v := (qa f a b) d) 1 d rfl rfl (by omega) (by omega) rfl dC_mixQuarter_27 ?_
  refine j_aload_n hg 0 dC_mixQuarter_28 rfl rfl ?_
  refine j_get hg (C := RX0) (T := TX0) (N := 2) inX0 0 rfl rfl 1 (by decide) m24 rfl dC_mixQuarter_29 ?_
  refine j_iload_n hg 1 dC_mixQuarter_32 rfl rfl ?_
  refine j_iald hg (v := (qa f a b) a) 1 a rfl rfl (by omega) (by omega) rfl dC_mixQuarter_33 ?_
  refine j_ixor hg (v := ((qa f a b) d) ^^^ ((qa f a b) a)) dC_mixQuarter_34 rfl ?_
  refine j_bipush hg (v := 16) dC_mixQuarter_35 (by decide) ?_
  refine j_callSN hg (n := 2) (y := yS_turnLeft) (rm := rm_S_turnLeft) (Ws := (cT yS_turnLeft cS_turnLeft 2 (some .int))) (As := [.int (((qa f a b) d) ^^^ ((qa f a b) a)), .int 16]) (rest := [.int (nI d), .ref q]) (wr := [ob h 0 [.ref p, .ref q], aI E q 16 (qa f a b)]) (host := RX3) (c_S_turnLeft l E (((qa f a b) d) ^^^ ((qa f a b) a)) 16) (gdT m180) rfl m1 (by decide +kernel) m179 (by decide +kernel) ⟨by decide, by decide⟩ rfl rfl (Nat.le_of_ble_eq_true rfl) ⟨by decide, by decide⟩ [] [0, 1] rfl rfl (by decide) (by decide) (by decide) dC_mixQuarter_37 (fun _ _ => ?_)
  show J E 5 g [ob h 0 [.ref p, .ref q], aI E q 16 (qa f a b)] [(0, .ref h), (1, .int (nI a)), (2, .int (nI b)), (3, .int (nI c)), (4, .int (nI d))] 0 0 40 [.int (tl (((qa f a b) d) ^^^ ((qa f a b) a)) 16), .int (nI d), .ref q]
  refine j_iast hg (ws' := [ob h 0 [.ref p, .ref q], aI E q 16 (qx (qa f a b) d a 16)]) 1 d rfl rfl (by omega) (by omega) rfl dC_mixQuarter_40 ?_
  refine j_aload_n hg 0 dC_mixQuarter_41 rfl rfl ?_
  refine j_get hg (C := RX0) (T := TX0) (N := 2) inX0 0 rfl rfl 1 (by decide) m24 rfl dC_mixQuarter_42 ?_
  refine j_iload_n hg 3 dC_mixQuarter_45 rfl rfl ?_
  refine j_dup2_11 hg dC_mixQuarter_46 rfl rfl ?_
  refine j_iald hg (v := (qx (qa f a b) d a 16) c) 1 c rfl rfl (by omega) (by omega) rfl dC_mixQuarter_47 ?_
  refine j_aload_n hg 0 dC_mixQuarter_48 rfl rfl ?_
  refine j_get hg (C := RX0) (T := TX0) (N := 2) inX0 0 rfl rfl 1 (by decide) m24 rfl dC_mixQuarter_49 ?_
  refine j_iload hg 4 dC_mixQuarter_52 rfl ?_
  refine j_iald hg (v := (qx (qa f a b) d a 16) d) 1 d rfl rfl (by omega) (by omega) rfl dC_mixQuarter_54 ?_
  refine j_iadd hg (v := ((qx (qa f a b) d a 16) c) + ((qx (qa f a b) d a 16) d)) dC_mixQuarter_55 rfl ?_
  refine j_iast hg (ws' := [ob h 0 [.ref p, .ref q], aI E q 16 (qa (qx (qa f a b) d a 16) c d)]) 1 c rfl rfl (by omega) (by omega) rfl dC_mixQuarter_56 ?_
  refine j_aload_n hg 0 dC_mixQuarter_57 rfl rfl ?_
  refine j_get hg (C := RX0) (T := TX0) (N := 2) inX0 0 rfl rfl 1 (by decide) m24 rfl dC_mixQuarter_58 ?_
  refine j_iload_n hg 2 dC_mixQuarter_61 rfl rfl ?_
  refine j_aload_n hg 0 dC_mixQuarter_62 rfl rfl ?_
  refine j_get hg (C := RX0) (T := TX0) (N := 2) inX0 0 rfl rfl 1 (by decide) m24 rfl dC_mixQuarter_63 ?_
  refine j_iload_n hg 2 dC_mixQuarter_66 rfl rfl ?_
  refine j_iald hg (v := (qa (qx (qa f a b) d a 16) c d) b) 1 b rfl rfl (by omega) (by omega) rfl dC_mixQuarter_67 ?_
  refine j_aload_n hg 0 dC_mixQuarter_68 rfl rfl ?_
  refine j_get hg (C := RX0) (T := TX0) (N := 2) inX0 0 rfl rfl 1 (by decide) m24 rfl dC_mixQuarter_69 ?_
  refine j_iload_n hg 3 dC_mixQuarter_72 rfl rfl ?_
  refine j_iald hg (v := (qa (qx (qa f a b) d a 16) c d) c) 1 c rfl rfl (by omega) (by omega) rfl dC_mixQuarter_73 ?_
  refine j_ixor hg (v := ((qa (qx (qa f a b) d a 16) c d) b) ^^^ ((qa (qx (qa f a b) d a 16) c d) c)) dC_mixQuarter_74 rfl ?_
  refine j_bipush hg (v := 12) dC_mixQuarter_75 (by decide) ?_
  refine j_callSN hg (n := 2) (y := yS_turnLeft) (rm := rm_S_turnLeft) (Ws := (cT yS_turnLeft cS_turnLeft 2 (some .int))) (As := [.int (((qa (qx (qa f a b) d a 16) c d) b) ^^^ ((qa (qx (qa f a b) d a 16) c d) c)), .int 12]) (rest := [.int (nI b), .ref q]) (wr := [ob h 0 [.ref p, .ref q], aI E q 16 (qa (qx (qa f a b) d a 16) c d)]) (host := RX3) (c_S_turnLeft l E (((qa (qx (qa f a b) d a 16) c d) b) ^^^ ((qa (qx (qa f a b) d a 16) c d) c)) 12) (gdT m180) rfl m1 (by decide +kernel) m179 (by decide +kernel) ⟨by decide, by decide⟩ rfl rfl (Nat.le_of_ble_eq_true rfl) ⟨by decide, by decide⟩ [] [0, 1] rfl rfl (by decide) (by decide) (by decide) dC_mixQuarter_77 (fun _ _ => ?_)
  show J E 5 g [ob h 0 [.ref p, .ref q], aI E q 16 (qa (qx (qa f a b) d a 16) c d)] [(0, .ref h), (1, .int (nI a)), (2, .int (nI b)), (3, .int (nI c)), (4, .int (nI d))] 0 0 80 [.int (tl (((qa (qx (qa f a b) d a 16) c d) b) ^^^ ((qa (qx (qa f a b) d a 16) c d) c)) 12), .int (nI b), .ref q]
  refine j_iast hg (ws' := [ob h 0 [.ref p, .ref q], aI E q 16 (qx (qa (qx (qa f a b) d a 16) c d) b c 12)]) 1 b rfl rfl (by omega) (by omega) rfl dC_mixQuarter_80 ?_
  refine j_aload_n hg 0 dC_mixQuarter_81 rfl rfl ?_
  refine j_get hg (C := RX0) (T := TX0) (N := 2) inX0 0 rfl rfl 1 (by decide) m24 rfl dC_mixQuarter_82 ?_
  refine j_iload_n hg 1 dC_mixQuarter_85 rfl rfl ?_
  refine j_dup2_11 hg dC_mixQuarter_86 rfl rfl ?_
  refine j_iald hg (v := (qx (qa (qx (qa f a b) d a 16) c d) b c 12) a) 1 a rfl rfl (by omega) (by omega) rfl dC_mixQuarter_87 ?_
  refine j_aload_n hg 0 dC_mixQuarter_88 rfl rfl ?_
  refine j_get hg (C := RX0) (T := TX0) (N := 2) inX0 0 rfl rfl 1 (by decide) m24 rfl dC_mixQuarter_89 ?_
  refine j_iload_n hg 2 dC_mixQuarter_92 rfl rfl ?_
  refine j_iald hg (v := (qx (qa (qx (qa f a b) d a 16) c d) b c 12) b) 1 b rfl rfl (by omega) (by omega) rfl dC_mixQuarter_93 ?_
  refine j_iadd hg (v := ((qx (qa (qx (qa f a b) d a 16) c d) b c 12) a) + ((qx (qa (qx (qa f a b) d a 16) c d) b c 12) b)) dC_mixQuarter_94 rfl ?_
  refine j_iast hg (ws' := [ob h 0 [.ref p, .ref q], aI E q 16 (qa (qx (qa (qx (qa f a b) d a 16) c d) b c 12) a b)]) 1 a rfl rfl (by omega) (by omega) rfl dC_mixQuarter_95 ?_
  refine j_aload_n hg 0 dC_mixQuarter_96 rfl rfl ?_
  refine j_get hg (C := RX0) (T := TX0) (N := 2) inX0 0 rfl rfl 1 (by decide) m24 rfl dC_mixQuarter_97 ?_
  refine j_iload hg 4 dC_mixQuarter_100 rfl ?_
  refine j_aload_n hg 0 dC_mixQuarter_102 rfl rfl ?_
  refine j_get hg (C := RX0) (T := TX0) (N := 2) inX0 0 rfl rfl 1 (by decide) m24 rfl dC_mixQuarter_103 ?_
  refine j_iload hg 4 dC_mixQuarter_106 rfl ?_
  refine j_iald hg (v := (qa (qx (qa (qx (qa f a b) d a 16) c d) b c 12) a b) d) 1 d rfl rfl (by omega) (by omega) rfl dC_mixQuarter_108 ?_
  refine j_aload_n hg 0 dC_mixQuarter_109 rfl rfl ?_
  refine j_get hg (C := RX0) (T := TX0) (N := 2) inX0 0 rfl rfl 1 (by decide) m24 rfl dC_mixQuarter_110 ?_
  refine j_iload_n hg 1 dC_mixQuarter_113 rfl rfl ?_
  refine j_iald hg (v := (qa (qx (qa (qx (qa f a b) d a 16) c d) b c 12) a b) a) 1 a rfl rfl (by omega) (by omega) rfl dC_mixQuarter_114 ?_
  refine j_ixor hg (v := ((qa (qx (qa (qx (qa f a b) d a 16) c d) b c 12) a b) d) ^^^ ((qa (qx (qa (qx (qa f a b) d a 16) c d) b c 12) a b) a)) dC_mixQuarter_115 rfl ?_
  refine j_bipush hg (v := 8) dC_mixQuarter_116 (by decide) ?_
  refine j_callSN hg (n := 2) (y := yS_turnLeft) (rm := rm_S_turnLeft) (Ws := (cT yS_turnLeft cS_turnLeft 2 (some .int))) (As := [.int (((qa (qx (qa (qx (qa f a b) d a 16) c d) b c 12) a b) d) ^^^ ((qa (qx (qa (qx (qa f a b) d a 16) c d) b c 12) a b) a)), .int 8]) (rest := [.int (nI d), .ref q]) (wr := [ob h 0 [.ref p, .ref q], aI E q 16 (qa (qx (qa (qx (qa f a b) d a 16) c d) b c 12) a b)]) (host := RX3) (c_S_turnLeft l E (((qa (qx (qa (qx (qa f a b) d a 16) c d) b c 12) a b) d) ^^^ ((qa (qx (qa (qx (qa f a b) d a 16) c d) b c 12) a b) a)) 8) (gdT m180) rfl m1 (by decide +kernel) m179 (by decide +kernel) ⟨by decide, by decide⟩ rfl rfl (Nat.le_of_ble_eq_true rfl) ⟨by decide, by decide⟩ [] [0, 1] rfl rfl (by decide) (by decide) (by decide) dC_mixQuarter_118 (fun _ _ => ?_)
  show J E 5 g [ob h 0 [.ref p, .ref q], aI E q 16 (qa (qx (qa (qx (qa f a b) d a 16) c d) b c 12) a b)] [(0, .ref h), (1, .int (nI a)), (2, .int (nI b)), (3, .int (nI c)), (4, .int (nI d))] 0 0 121 [.int (tl (((qa (qx (qa (qx (qa f a b) d a 16) c d) b c 12) a b) d) ^^^ ((qa (qx (qa (qx (qa f a b) d a 16) c d) b c 12) a b) a)) 8), .int (nI d), .ref q]
  refine j_iast hg (ws' := [ob h 0 [.ref p, .ref q], aI E q 16 (qx (qa (qx (qa (qx (qa f a b) d a 16) c d) b c 12) a b) d a 8)]) 1 d rfl rfl (by omega) (by omega) rfl dC_mixQuarter_121 ?_
  refine j_aload_n hg 0 dC_mixQuarter_122 rfl rfl ?_
  refine j_get hg (C := RX0) (T := TX0) (N := 2) inX0 0 rfl rfl 1 (by decide) m24 rfl dC_mixQuarter_123 ?_
  refine j_iload_n hg 3 dC_mixQuarter_126 rfl rfl ?_
  refine j_dup2_11 hg dC_mixQuarter_127 rfl rfl ?_
  refine j_iald hg (v := (qx (qa (qx (qa (qx (qa f a b) d a 16) c d) b c 12) a b) d a 8) c) 1 c rfl rfl (by omega) (by omega) rfl dC_mixQuarter_128 ?_
  refine j_aload_n hg 0 dC_mixQuarter_129 rfl rfl ?_
  refine j_get hg (C := RX0) (T := TX0) (N := 2) inX0 0 rfl rfl 1 (by decide) m24 rfl dC_mixQuarter_130 ?_
  refine j_iload hg 4 dC_mixQuarter_133 rfl ?_
  refine j_iald hg (v := (qx (qa (qx (qa (qx (qa f a b) d a 16) c d) b c 12) a b) d a 8) d) 1 d rfl rfl (by omega) (by omega) rfl dC_mixQuarter_135 ?_
  refine j_iadd hg (v := ((qx (qa (qx (qa (qx (qa f a b) d a 16) c d) b c 12) a b) d a 8) c) + ((qx (qa (qx (qa (qx (qa f a b) d a 16) c d) b c 12) a b) d a 8) d)) dC_mixQuarter_136 rfl ?_
  refine j_iast hg (ws' := [ob h 0 [.ref p, .ref q], aI E q 16 (qa (qx (qa (qx (qa (qx (qa f a b) d a 16) c d) b c 12) a b) d a 8) c d)]) 1 c rfl rfl (by omega) (by omega) rfl dC_mixQuarter_137 ?_
  refine j_aload_n hg 0 dC_mixQuarter_138 rfl rfl ?_
  refine j_get hg (C := RX0) (T := TX0) (N := 2) inX0 0 rfl rfl 1 (by decide) m24 rfl dC_mixQuarter_139 ?_
  refine j_iload_n hg 2 dC_mixQuarter_142 rfl rfl ?_
  refine j_aload_n hg 0 dC_mixQuarter_143 rfl rfl ?_
  refine j_get hg (C := RX0) (T := TX0) (N := 2) inX0 0 rfl rfl 1 (by decide) m24 rfl dC_mixQuarter_144 ?_
  refine j_iload_n hg 2 dC_mixQuarter_147 rfl rfl ?_
  refine j_iald hg (v := (qa (qx (qa (qx (qa (qx (qa f a b) d a 16) c d) b c 12) a b) d a 8) c d) b) 1 b rfl rfl (by omega) (by omega) rfl dC_mixQuarter_148 ?_
  refine j_aload_n hg 0 dC_mixQuarter_149 rfl rfl ?_
  refine j_get hg (C := RX0) (T := TX0) (N := 2) inX0 0 rfl rfl 1 (by decide) m24 rfl dC_mixQuarter_150 ?_
  refine j_iload_n hg 3 dC_mixQuarter_153 rfl rfl ?_
  refine j_iald hg (v := (qa (qx (qa (qx (qa (qx (qa f a b) d a 16) c d) b c 12) a b) d a 8) c d) c) 1 c rfl rfl (by omega) (by omega) rfl dC_mixQuarter_154 ?_
  refine j_ixor hg (v := ((qa (qx (qa (qx (qa (qx (qa f a b) d a 16) c d) b c 12) a b) d a 8) c d) b) ^^^ ((qa (qx (qa (qx (qa (qx (qa f a b) d a 16) c d) b c 12) a b) d a 8) c d) c)) dC_mixQuarter_155 rfl ?_
  refine j_bipush hg (v := 7) dC_mixQuarter_156 (by decide) ?_
  refine j_callSN hg (n := 2) (y := yS_turnLeft) (rm := rm_S_turnLeft) (Ws := (cT yS_turnLeft cS_turnLeft 2 (some .int))) (As := [.int (((qa (qx (qa (qx (qa (qx (qa f a b) d a 16) c d) b c 12) a b) d a 8) c d) b) ^^^ ((qa (qx (qa (qx (qa (qx (qa f a b) d a 16) c d) b c 12) a b) d a 8) c d) c)), .int 7]) (rest := [.int (nI b), .ref q]) (wr := [ob h 0 [.ref p, .ref q], aI E q 16 (qa (qx (qa (qx (qa (qx (qa f a b) d a 16) c d) b c 12) a b) d a 8) c d)]) (host := RX3) (c_S_turnLeft l E (((qa (qx (qa (qx (qa (qx (qa f a b) d a 16) c d) b c 12) a b) d a 8) c d) b) ^^^ ((qa (qx (qa (qx (qa (qx (qa f a b) d a 16) c d) b c 12) a b) d a 8) c d) c)) 7) (gdT m180) rfl m1 (by decide +kernel) m179 (by decide +kernel) ⟨by decide, by decide⟩ rfl rfl (Nat.le_of_ble_eq_true rfl) ⟨by decide, by decide⟩ [] [0, 1] rfl rfl (by decide) (by decide) (by decide) dC_mixQuarter_158 (fun _ _ => ?_)
  show J E 5 g [ob h 0 [.ref p, .ref q], aI E q 16 (qa (qx (qa (qx (qa (qx (qa f a b) d a 16) c d) b c 12) a b) d a 8) c d)] [(0, .ref h), (1, .int (nI a)), (2, .int (nI b)), (3, .int (nI c)), (4, .int (nI d))] 0 0 161 [.int (tl (((qa (qx (qa (qx (qa (qx (qa f a b) d a 16) c d) b c 12) a b) d a 8) c d) b) ^^^ ((qa (qx (qa (qx (qa (qx (qa f a b) d a 16) c d) b c 12) a b) d a 8) c d) c)) 7), .int (nI b), .ref q]
  refine j_iast hg (ws' := [ob h 0 [.ref p, .ref q], aI E q 16 (qx (qa (qx (qa (qx (qa (qx (qa f a b) d a 16) c d) b c 12) a b) d a 8) c d) b c 7)]) 1 b rfl rfl (by omega) (by omega) rfl dC_mixQuarter_161 ?_
  exact j_vret hg hR () trivial rfl [0, 1] rfl (by decide) (by decide) (by decide) dC_mixQuarter_162

def rm_C_mixColumns : Room := { frames := 2, cells := 0, slots := 0, locals := 45 }
set_option maxHeartbeats 1000000 in
set_option maxRecDepth 100000 in
theorem c_C_mixColumns (l : Launch) (E : Ev) (h p q : Nat) (f : Nat → Int32) : MC E l yC_mixColumns (cT yC_mixColumns cC_mixColumns 1 none) rm_C_mixColumns [.ref h] [ob h 0 [.ref p, .ref q], aI E q 16 f] Unit (fun _ => True) (fun _ => none) (fun _ => [ob h 0 [.ref p, .ref q], aI E q 16 (qcol f)]) := by
  refine MC.of (cc := cC_mixColumns) (nL := 1) (ret := none) (by decide) rfl cT_in (Nat.le_of_ble_eq_true rfl) (fun g hg hR => ?_)
  show J E 1 g [ob h 0 [.ref p, .ref q], aI E q 16 f] [(0, .ref h)] 0 0 0 []
  refine j_aload_n hg 0 dC_mixColumns_0 rfl rfl ?_
  refine j_iconst hg (v := 0) dC_mixColumns_1 (by decide) ?_
  refine j_iconst hg (v := 4) dC_mixColumns_2 (by decide) ?_
  refine j_bipush hg (v := 8) dC_mixColumns_3 (by decide) ?_
  refine j_bipush hg (v := 12) dC_mixColumns_5 (by decide) ?_
  refine j_callV hg (n := 4) (y := yC_mixQuarter) (rm := rm_C_mixQuarter) (Ws := (cT yC_mixQuarter cC_mixQuarter 5 none)) (As := [.int 0, .int 4, .int 8, .int 12]) (rest := []) (wr := []) 0 rfl rfl (c_C_mixQuarter l E h p q f 0 4 8 12 (by omega) (by omega) (by omega) (by omega)) (gdV m174 m176 ms3 m2 m177) rfl (by decide +kernel) ⟨by decide, by decide⟩ rfl rfl (Nat.le_of_ble_eq_true rfl) ⟨by decide, by decide⟩ [0, 1] [] rfl rfl (by decide) (by decide) (by decide) dC_mixColumns_7 (fun _ _ => ?_)
  show J E 1 g [ob h 0 [.ref p, .ref q], aI E q 16 (qr f 0 4 8 12)] [(0, .ref h)] 0 0 10 []
  refine j_aload_n hg 0 dC_mixColumns_10 rfl rfl ?_
  refine j_iconst hg (v := 1) dC_mixColumns_11 (by decide) ?_
  refine j_iconst hg (v := 5) dC_mixColumns_12 (by decide) ?_
  refine j_bipush hg (v := 9) dC_mixColumns_13 (by decide) ?_
  refine j_bipush hg (v := 13) dC_mixColumns_15 (by decide) ?_
  refine j_callV hg (n := 4) (y := yC_mixQuarter) (rm := rm_C_mixQuarter) (Ws := (cT yC_mixQuarter cC_mixQuarter 5 none)) (As := [.int 1, .int 5, .int 9, .int 13]) (rest := []) (wr := []) 0 rfl rfl (c_C_mixQuarter l E h p q (qr f 0 4 8 12) 1 5 9 13 (by omega) (by omega) (by omega) (by omega)) (gdV m174 m176 ms3 m2 m177) rfl (by decide +kernel) ⟨by decide, by decide⟩ rfl rfl (Nat.le_of_ble_eq_true rfl) ⟨by decide, by decide⟩ [0, 1] [] rfl rfl (by decide) (by decide) (by decide) dC_mixColumns_17 (fun _ _ => ?_)
  show J E 1 g [ob h 0 [.ref p, .ref q], aI E q 16 (qr (qr f 0 4 8 12) 1 5 9 13)] [(0, .ref h)] 0 0 20 []
  refine j_aload_n hg 0 dC_mixColumns_20 rfl rfl ?_
  refine j_iconst hg (v := 2) dC_mixColumns_21 (by decide) ?_
  refine j_bipush hg (v := 6) dC_mixColumns_22 (by decide) ?_
  refine j_bipush hg (v := 10) dC_mixColumns_24 (by decide) ?_
  refine j_bipush hg (v := 14) dC_mixColumns_26 (by decide) ?_
  refine j_callV hg (n := 4) (y := yC_mixQuarter) (rm := rm_C_mixQuarter) (Ws := (cT yC_mixQuarter cC_mixQuarter 5 none)) (As := [.int 2, .int 6, .int 10, .int 14]) (rest := []) (wr := []) 0 rfl rfl (c_C_mixQuarter l E h p q (qr (qr f 0 4 8 12) 1 5 9 13) 2 6 10 14 (by omega) (by omega) (by omega) (by omega)) (gdV m174 m176 ms3 m2 m177) rfl (by decide +kernel) ⟨by decide, by decide⟩ rfl rfl (Nat.le_of_ble_eq_true rfl) ⟨by decide, by decide⟩ [0, 1] [] rfl rfl (by decide) (by decide) (by decide) dC_mixColumns_28 (fun _ _ => ?_)
  show J E 1 g [ob h 0 [.ref p, .ref q], aI E q 16 (qr (qr (qr f 0 4 8 12) 1 5 9 13) 2 6 10 14)] [(0, .ref h)] 0 0 31 []
  refine j_aload_n hg 0 dC_mixColumns_31 rfl rfl ?_
  refine j_iconst hg (v := 3) dC_mixColumns_32 (by decide) ?_
  refine j_bipush hg (v := 7) dC_mixColumns_33 (by decide) ?_
  refine j_bipush hg (v := 11) dC_mixColumns_35 (by decide) ?_
  refine j_bipush hg (v := 15) dC_mixColumns_37 (by decide) ?_
  refine j_callV hg (n := 4) (y := yC_mixQuarter) (rm := rm_C_mixQuarter) (Ws := (cT yC_mixQuarter cC_mixQuarter 5 none)) (As := [.int 3, .int 7, .int 11, .int 15]) (rest := []) (wr := []) 0 rfl rfl (c_C_mixQuarter l E h p q (qr (qr (qr f 0 4 8 12) 1 5 9 13) 2 6 10 14) 3 7 11 15 (by omega) (by omega) (by omega) (by omega)) (gdV m174 m176 ms3 m2 m177) rfl (by decide +kernel) ⟨by decide, by decide⟩ rfl rfl (Nat.le_of_ble_eq_true rfl) ⟨by decide, by decide⟩ [0, 1] [] rfl rfl (by decide) (by decide) (by decide) dC_mixColumns_39 (fun _ _ => ?_)
  show J E 1 g [ob h 0 [.ref p, .ref q], aI E q 16 (qr (qr (qr (qr f 0 4 8 12) 1 5 9 13) 2 6 10 14) 3 7 11 15)] [(0, .ref h)] 0 0 42 []
  exact j_vret hg hR () trivial rfl [0, 1] rfl (by decide) (by decide) (by decide) dC_mixColumns_42

def rm_C_mixDiagonals : Room := { frames := 2, cells := 0, slots := 0, locals := 45 }
set_option maxHeartbeats 1000000 in
set_option maxRecDepth 100000 in
theorem c_C_mixDiagonals (l : Launch) (E : Ev) (h p q : Nat) (f : Nat → Int32) : MC E l yC_mixDiagonals (cT yC_mixDiagonals cC_mixDiagonals 1 none) rm_C_mixDiagonals [.ref h] [ob h 0 [.ref p, .ref q], aI E q 16 f] Unit (fun _ => True) (fun _ => none) (fun _ => [ob h 0 [.ref p, .ref q], aI E q 16 (qdia f)]) := by
  refine MC.of (cc := cC_mixDiagonals) (nL := 1) (ret := none) (by decide) rfl cT_in (Nat.le_of_ble_eq_true rfl) (fun g hg hR => ?_)
  show J E 1 g [ob h 0 [.ref p, .ref q], aI E q 16 f] [(0, .ref h)] 0 0 0 []
  refine j_aload_n hg 0 dC_mixDiagonals_0 rfl rfl ?_
  refine j_iconst hg (v := 0) dC_mixDiagonals_1 (by decide) ?_
  refine j_iconst hg (v := 5) dC_mixDiagonals_2 (by decide) ?_
  refine j_bipush hg (v := 10) dC_mixDiagonals_3 (by decide) ?_
  refine j_bipush hg (v := 15) dC_mixDiagonals_5 (by decide) ?_
  refine j_callV hg (n := 4) (y := yC_mixQuarter) (rm := rm_C_mixQuarter) (Ws := (cT yC_mixQuarter cC_mixQuarter 5 none)) (As := [.int 0, .int 5, .int 10, .int 15]) (rest := []) (wr := []) 0 rfl rfl (c_C_mixQuarter l E h p q f 0 5 10 15 (by omega) (by omega) (by omega) (by omega)) (gdV m174 m176 ms3 m2 m177) rfl (by decide +kernel) ⟨by decide, by decide⟩ rfl rfl (Nat.le_of_ble_eq_true rfl) ⟨by decide, by decide⟩ [0, 1] [] rfl rfl (by decide) (by decide) (by decide) dC_mixDiagonals_7 (fun _ _ => ?_)
  show J E 1 g [ob h 0 [.ref p, .ref q], aI E q 16 (qr f 0 5 10 15)] [(0, .ref h)] 0 0 10 []
  refine j_aload_n hg 0 dC_mixDiagonals_10 rfl rfl ?_
  refine j_iconst hg (v := 1) dC_mixDiagonals_11 (by decide) ?_
  refine j_bipush hg (v := 6) dC_mixDiagonals_12 (by decide) ?_
  refine j_bipush hg (v := 11) dC_mixDiagonals_14 (by decide) ?_
  refine j_bipush hg (v := 12) dC_mixDiagonals_16 (by decide) ?_
  refine j_callV hg (n := 4) (y := yC_mixQuarter) (rm := rm_C_mixQuarter) (Ws := (cT yC_mixQuarter cC_mixQuarter 5 none)) (As := [.int 1, .int 6, .int 11, .int 12]) (rest := []) (wr := []) 0 rfl rfl (c_C_mixQuarter l E h p q (qr f 0 5 10 15) 1 6 11 12 (by omega) (by omega) (by omega) (by omega)) (gdV m174 m176 ms3 m2 m177) rfl (by decide +kernel) ⟨by decide, by decide⟩ rfl rfl (Nat.le_of_ble_eq_true rfl) ⟨by decide, by decide⟩ [0, 1] [] rfl rfl (by decide) (by decide) (by decide) dC_mixDiagonals_18 (fun _ _ => ?_)
  show J E 1 g [ob h 0 [.ref p, .ref q], aI E q 16 (qr (qr f 0 5 10 15) 1 6 11 12)] [(0, .ref h)] 0 0 21 []
  refine j_aload_n hg 0 dC_mixDiagonals_21 rfl rfl ?_
  refine j_iconst hg (v := 2) dC_mixDiagonals_22 (by decide) ?_
  refine j_bipush hg (v := 7) dC_mixDiagonals_23 (by decide) ?_
  refine j_bipush hg (v := 8) dC_mixDiagonals_25 (by decide) ?_
  refine j_bipush hg (v := 13) dC_mixDiagonals_27 (by decide) ?_
  refine j_callV hg (n := 4) (y := yC_mixQuarter) (rm := rm_C_mixQuarter) (Ws := (cT yC_mixQuarter cC_mixQuarter 5 none)) (As := [.int 2, .int 7, .int 8, .int 13]) (rest := []) (wr := []) 0 rfl rfl (c_C_mixQuarter l E h p q (qr (qr f 0 5 10 15) 1 6 11 12) 2 7 8 13 (by omega) (by omega) (by omega) (by omega)) (gdV m174 m176 ms3 m2 m177) rfl (by decide +kernel) ⟨by decide, by decide⟩ rfl rfl (Nat.le_of_ble_eq_true rfl) ⟨by decide, by decide⟩ [0, 1] [] rfl rfl (by decide) (by decide) (by decide) dC_mixDiagonals_29 (fun _ _ => ?_)
  show J E 1 g [ob h 0 [.ref p, .ref q], aI E q 16 (qr (qr (qr f 0 5 10 15) 1 6 11 12) 2 7 8 13)] [(0, .ref h)] 0 0 32 []
  refine j_aload_n hg 0 dC_mixDiagonals_32 rfl rfl ?_
  refine j_iconst hg (v := 3) dC_mixDiagonals_33 (by decide) ?_
  refine j_iconst hg (v := 4) dC_mixDiagonals_34 (by decide) ?_
  refine j_bipush hg (v := 9) dC_mixDiagonals_35 (by decide) ?_
  refine j_bipush hg (v := 14) dC_mixDiagonals_37 (by decide) ?_
  refine j_callV hg (n := 4) (y := yC_mixQuarter) (rm := rm_C_mixQuarter) (Ws := (cT yC_mixQuarter cC_mixQuarter 5 none)) (As := [.int 3, .int 4, .int 9, .int 14]) (rest := []) (wr := []) 0 rfl rfl (c_C_mixQuarter l E h p q (qr (qr (qr f 0 5 10 15) 1 6 11 12) 2 7 8 13) 3 4 9 14 (by omega) (by omega) (by omega) (by omega)) (gdV m174 m176 ms3 m2 m177) rfl (by decide +kernel) ⟨by decide, by decide⟩ rfl rfl (Nat.le_of_ble_eq_true rfl) ⟨by decide, by decide⟩ [0, 1] [] rfl rfl (by decide) (by decide) (by decide) dC_mixDiagonals_39 (fun _ _ => ?_)
  show J E 1 g [ob h 0 [.ref p, .ref q], aI E q 16 (qr (qr (qr (qr f 0 5 10 15) 1 6 11 12) 2 7 8 13) 3 4 9 14)] [(0, .ref h)] 0 0 42 []
  exact j_vret hg hR () trivial rfl [0, 1] rfl (by decide) (by decide) (by decide) dC_mixDiagonals_42

def rm_C_lay : Room := { frames := 1, cells := 0, slots := 0, locals := 21 }
set_option maxHeartbeats 1000000 in
set_option maxRecDepth 100000 in
theorem c_C_lay (l : Launch) (E : Ev) (h p q kk nn : Nat) (f fk fn : Nat → Int32) (ctr : Int32) : MC E l yC_lay (cT yC_lay cC_lay 5 none) rm_C_lay [.ref h, .ref kk, .ref nn, .int ctr] [ob h 0 [.ref p, .ref q], aI E p 16 f, aB E kk 32 fk, aB E nn 12 fn] Unit (fun _ => True) (fun _ => none) (fun _ => [ob h 0 [.ref p, .ref q], aI E p 16 (layF f fk fn ctr), aB E kk 32 fk, aB E nn 12 fn]) := by
  refine MC.of (cc := cC_lay) (nL := 5) (ret := none) (by decide) rfl cT_in (Nat.le_of_ble_eq_true rfl) (fun g hg hR => ?_)
  show J E 5 g [ob h 0 [.ref p, .ref q], aI E p 16 f, aB E kk 32 fk, aB E nn 12 fn] [(0, .ref h), (1, .ref kk), (2, .ref nn), (3, .int ctr)] 0 0 0 []
  refine j_aload_n hg 0 dC_lay_0 rfl rfl ?_
  refine j_get hg (C := RX0) (T := TX0) (N := 2) inX0 0 rfl rfl 0 (by decide) m23 rfl dC_lay_1 ?_
  refine j_iconst hg (v := 0) dC_lay_4 (by decide) ?_
  refine j_ldc hg (v := 1634760805) m162 dC_lay_5 ?_
  refine j_iast hg (ws' := [ob h 0 [.ref p, .ref q], aI E p 16 (upd f 0 1634760805), aB E kk 32 fk, aB E nn 12 fn]) 1 0 rfl rfl (by omega) (by omega) rfl dC_lay_7 ?_
  refine j_aload_n hg 0 dC_lay_8 rfl rfl ?_
  refine j_get hg (C := RX0) (T := TX0) (N := 2) inX0 0 rfl rfl 0 (by decide) m23 rfl dC_lay_9 ?_
  refine j_iconst hg (v := 1) dC_lay_12 (by decide) ?_
  refine j_ldc hg (v := 857760878) m163 dC_lay_13 ?_
  refine j_iast hg (ws' := [ob h 0 [.ref p, .ref q], aI E p 16 (upd (upd f 0 1634760805) 1 857760878), aB E kk 32 fk, aB E nn 12 fn]) 1 1 rfl rfl (by omega) (by omega) rfl dC_lay_15 ?_
  refine j_aload_n hg 0 dC_lay_16 rfl rfl ?_
  refine j_get hg (C := RX0) (T := TX0) (N := 2) inX0 0 rfl rfl 0 (by decide) m23 rfl dC_lay_17 ?_
  refine j_iconst hg (v := 2) dC_lay_20 (by decide) ?_
  refine j_ldc hg (v := 2036477234) m164 dC_lay_21 ?_
  refine j_iast hg (ws' := [ob h 0 [.ref p, .ref q], aI E p 16 (upd (upd (upd f 0 1634760805) 1 857760878) 2 2036477234), aB E kk 32 fk, aB E nn 12 fn]) 1 2 rfl rfl (by omega) (by omega) rfl dC_lay_23 ?_
  refine j_aload_n hg 0 dC_lay_24 rfl rfl ?_
  refine j_get hg (C := RX0) (T := TX0) (N := 2) inX0 0 rfl rfl 0 (by decide) m23 rfl dC_lay_25 ?_
  refine j_iconst hg (v := 3) dC_lay_28 (by decide) ?_
  refine j_ldc hg (v := 1797285236) m165 dC_lay_29 ?_
  refine j_iast hg (ws' := [ob h 0 [.ref p, .ref q], aI E p 16 (upd (upd (upd (upd f 0 1634760805) 1 857760878) 2 2036477234) 3 1797285236), aB E kk 32 fk, aB E nn 12 fn]) 1 3 rfl rfl (by omega) (by omega) rfl dC_lay_31 ?_
  refine j_iconst hg (v := 0) dC_lay_32 (by decide) ?_
  refine j_istore hg (lv' := [(4, .int 0), (0, .ref h), (1, .ref kk), (2, .ref nn), (3, .int ctr)]) dC_lay_33 (by decide) rfl ?_
  refine j_pick [1, 2, 3, 4, 0] (lv' := [(0, .ref h), (1, .ref kk), (2, .ref nn), (3, .int ctr), (4, .int 0)]) rfl ?_
  have loop : ∀ (zk i : Nat), i + zk = 8 → J E 5 g [ob h 0 [.ref p, .ref q], aI E p 16 (layk fk (lay0 f) i), aB E kk 32 fk, aB E nn 12 fn] [(0, .ref h), (1, .ref kk), (2, .ref nn), (3, .int ctr), (4, .int (nI i))] 0 0 35 [] := by
    intro zk
    induction zk with
    | zero =>
      intro i  hi
      obtain rfl : 8 = i := by omega
      refine j_iload hg 4 dC_lay_35 rfl ?_
      refine j_bipush hg (v := 8) dC_lay_37 (by decide) ?_
      refine j_nge_t hg (tgt := 65) 8 8 rfl rfl (by omega) (by omega) (by omega) dC_lay_39 (by decide) ?_
      refine j_aload_n hg 0 dC_lay_65 rfl rfl ?_
      refine j_get hg (C := RX0) (T := TX0) (N := 2) inX0 0 rfl rfl 0 (by decide) m23 rfl dC_lay_66 ?_
      refine j_bipush hg (v := 12) dC_lay_69 (by decide) ?_
      refine j_iload_n hg 3 dC_lay_71 rfl rfl ?_
      refine j_iast hg (ws' := [ob h 0 [.ref p, .ref q], aI E p 16 (upd (layk fk (lay0 f) 8) 12 ctr), aB E kk 32 fk, aB E nn 12 fn]) 1 12 rfl rfl (by omega) (by omega) rfl dC_lay_72 ?_
      refine j_iconst hg (v := 0) dC_lay_73 (by decide) ?_
      refine j_istore hg (lv' := [(4, .int 0), (0, .ref h), (1, .ref kk), (2, .ref nn), (3, .int ctr)]) dC_lay_74 (by decide) rfl ?_
      refine j_pick [1, 2, 3, 4, 0] (lv' := [(0, .ref h), (1, .ref kk), (2, .ref nn), (3, .int ctr), (4, .int 0)]) rfl ?_
      have loop2 : ∀ (zk i : Nat), i + zk = 3 → J E 5 g [ob h 0 [.ref p, .ref q], aI E p 16 (layn fn (upd (layk fk (lay0 f) 8) 12 ctr) i), aB E kk 32 fk, aB E nn 12 fn] [(0, .ref h), (1, .ref kk), (2, .ref nn), (3, .int ctr), (4, .int (nI i))] 0 0 76 [] := by
        intro zk
        induction zk with
        | zero =>
          intro i  hi
          obtain rfl : 3 = i := by omega
          refine j_iload hg 4 dC_lay_76 rfl ?_
          refine j_iconst hg (v := 3) dC_lay_78 (by decide) ?_
          refine j_nge_t hg (tgt := 106) 3 3 rfl rfl (by omega) (by omega) (by omega) dC_lay_79 (by decide) ?_
          exact j_vret hg hR () trivial rfl [0, 1, 2, 3] rfl (by decide) (by decide) (by decide) dC_lay_106
        | succ zk ih =>
          intro i  hi
          refine j_iload hg 4 dC_lay_76 rfl ?_
          refine j_iconst hg (v := 3) dC_lay_78 (by decide) ?_
          refine j_nge_f hg (tgt := 106) i 3 rfl rfl (by omega) (by omega) (by omega) dC_lay_79 (by decide) ?_
          refine j_aload_n hg 0 dC_lay_82 rfl rfl ?_
          refine j_get hg (C := RX0) (T := TX0) (N := 2) inX0 0 rfl rfl 0 (by decide) m23 rfl dC_lay_83 ?_
          refine j_bipush hg (v := 13) dC_lay_86 (by decide) ?_
          refine j_iload hg 4 dC_lay_88 rfl ?_
          refine j_iadd hg (v := nI (13 + i)) dC_lay_90 (nI_add 13 i) ?_
          refine j_aload_n hg 2 dC_lay_91 rfl rfl ?_
          refine j_iconst hg (v := 4) dC_lay_92 (by decide) ?_
          refine j_iload hg 4 dC_lay_93 rfl ?_
          refine j_imul hg (v := nI (4 * i)) dC_lay_95 (pk_mul 4 i) ?_
          refine j_callSN hg (n := 2) (y := yS_readLowestFirst) (rm := rm_S_readLowestFirst) (Ws := (cT yS_readLowestFirst cS_readLowestFirst 2 (some .int))) (As := [.ref nn, .int (nI (4 * i))]) (rest := [.int (nI (13 + i)), .ref p]) (wr := [ob h 0 [.ref p, .ref q], aI E p 16 (layn fn (upd (layk fk (lay0 f) 8) 12 ctr) i), aB E kk 32 fk]) (host := RX3) (c_S_readLowestFirst l E nn 12 fn (4 * i) (by omega) (by omega)) (gdT m168) rfl m1 (by decide +kernel) m167 (by decide +kernel) ⟨by decide, by decide⟩ rfl rfl (Nat.le_of_ble_eq_true rfl) ⟨by decide, by decide⟩ [3] [0, 1, 2] rfl rfl (by decide) (by decide) (by decide) dC_lay_96 (fun _ _ => ?_)
          show J E 5 g [ob h 0 [.ref p, .ref q], aI E p 16 (layn fn (upd (layk fk (lay0 f) 8) 12 ctr) i), aB E kk 32 fk, aB E nn 12 fn] [(0, .ref h), (1, .ref kk), (2, .ref nn), (3, .int ctr), (4, .int (nI i))] 0 0 99 [.int (rl fn (4 * i)), .int (nI (13 + i)), .ref p]
          refine j_iast hg (ws' := [ob h 0 [.ref p, .ref q], aI E p 16 (upd (layn fn (upd (layk fk (lay0 f) 8) 12 ctr) i) (13 + i) (rl fn (4 * i))), aB E kk 32 fk, aB E nn 12 fn]) 1 (13 + i) rfl rfl (by omega) (by omega) rfl dC_lay_99 ?_
          refine j_iinc hg (kq := 4) (v := nI (i + 1)) (lv' := [(4, .int (nI (i + 1))), (0, .ref h), (1, .ref kk), (2, .ref nn), (3, .int ctr)]) dC_lay_100 rfl (nI_add i 1) (by decide) rfl ?_
          refine j_goto hg (tgt := 76) dC_lay_103 (by decide) ?_
          refine j_pick [1, 2, 3, 4, 0] (lv' := [(0, .ref h), (1, .ref kk), (2, .ref nn), (3, .int ctr), (4, .int (nI (i + 1)))]) rfl ?_
          exact ih (i + 1) (by omega)
      exact loop2 (3) 0 (by omega)
    | succ zk ih =>
      intro i  hi
      refine j_iload hg 4 dC_lay_35 rfl ?_
      refine j_bipush hg (v := 8) dC_lay_37 (by decide) ?_
      refine j_nge_f hg (tgt := 65) i 8 rfl rfl (by omega) (by omega) (by omega) dC_lay_39 (by decide) ?_
      refine j_aload_n hg 0 dC_lay_42 rfl rfl ?_
      refine j_get hg (C := RX0) (T := TX0) (N := 2) inX0 0 rfl rfl 0 (by decide) m23 rfl dC_lay_43 ?_
      refine j_iconst hg (v := 4) dC_lay_46 (by decide) ?_
      refine j_iload hg 4 dC_lay_47 rfl ?_
      refine j_iadd hg (v := nI (4 + i)) dC_lay_49 (nI_add 4 i) ?_
      refine j_aload_n hg 1 dC_lay_50 rfl rfl ?_
      refine j_iconst hg (v := 4) dC_lay_51 (by decide) ?_
      refine j_iload hg 4 dC_lay_52 rfl ?_
      refine j_imul hg (v := nI (4 * i)) dC_lay_54 (pk_mul 4 i) ?_
      refine j_callSN hg (n := 2) (y := yS_readLowestFirst) (rm := rm_S_readLowestFirst) (Ws := (cT yS_readLowestFirst cS_readLowestFirst 2 (some .int))) (As := [.ref kk, .int (nI (4 * i))]) (rest := [.int (nI (4 + i)), .ref p]) (wr := [ob h 0 [.ref p, .ref q], aI E p 16 (layk fk (lay0 f) i), aB E nn 12 fn]) (host := RX3) (c_S_readLowestFirst l E kk 32 fk (4 * i) (by omega) (by omega)) (gdT m168) rfl m1 (by decide +kernel) m167 (by decide +kernel) ⟨by decide, by decide⟩ rfl rfl (Nat.le_of_ble_eq_true rfl) ⟨by decide, by decide⟩ [2] [0, 1, 3] rfl rfl (by decide) (by decide) (by decide) dC_lay_55 (fun _ _ => ?_)
      show J E 5 g [ob h 0 [.ref p, .ref q], aI E p 16 (layk fk (lay0 f) i), aB E nn 12 fn, aB E kk 32 fk] [(0, .ref h), (1, .ref kk), (2, .ref nn), (3, .int ctr), (4, .int (nI i))] 0 0 58 [.int (rl fk (4 * i)), .int (nI (4 + i)), .ref p]
      refine j_iast hg (ws' := [ob h 0 [.ref p, .ref q], aI E p 16 (upd (layk fk (lay0 f) i) (4 + i) (rl fk (4 * i))), aB E nn 12 fn, aB E kk 32 fk]) 1 (4 + i) rfl rfl (by omega) (by omega) rfl dC_lay_58 ?_
      refine j_iinc hg (kq := 4) (v := nI (i + 1)) (lv' := [(4, .int (nI (i + 1))), (0, .ref h), (1, .ref kk), (2, .ref nn), (3, .int ctr)]) dC_lay_59 rfl (nI_add i 1) (by decide) rfl ?_
      refine j_goto hg (tgt := 35) dC_lay_62 (by decide) ?_
      refine j_sub [0, 1, 3, 2] (ws' := [ob h 0 [.ref p, .ref q], aI E p 16 (upd (layk fk (lay0 f) i) (4 + i) (rl fk (4 * i))), aB E kk 32 fk, aB E nn 12 fn]) rfl (by decide) ?_
      refine j_pick [1, 2, 3, 4, 0] (lv' := [(0, .ref h), (1, .ref kk), (2, .ref nn), (3, .int ctr), (4, .int (nI (i + 1)))]) rfl ?_
      exact ih (i + 1) (by omega)
  exact loop (8) 0 (by omega)

def rm_C_fill : Room := { frames := 3, cells := 0, slots := 0, locals := 65 }
set_option maxHeartbeats 1000000 in
set_option maxRecDepth 100000 in
theorem c_C_fill (l : Launch) (E : Ev) (h p q kk nn rr n : Nat) (row f m fk fn : Nat → Int32) (ctr : Int32) (h1 : 64 ≤ n) (h2 : n < 2147483648) : MC E l yC_fill (cT yC_fill cC_fill 6 none) rm_C_fill [.ref h, .ref rr, .ref kk, .ref nn, .int ctr] [ob h 0 [.ref p, .ref q], aI E p 16 f, aI E q 16 m, aB E kk 32 fk, aB E nn 12 fn, aB E rr n row] Unit (fun _ => True) (fun _ => none) (fun _ => [ob h 0 [.ref p, .ref q], aI E p 16 (layF f fk fn ctr), aI E q 16 (mixF f m fk fn ctr), aB E kk 32 fk, aB E nn 12 fn, aB E rr n (fillF row f m fk fn ctr)]) := by
  refine MC.of (cc := cC_fill) (nL := 6) (ret := none) (by decide) rfl cT_in (Nat.le_of_ble_eq_true rfl) (fun g hg hR => ?_)
  show J E 6 g [ob h 0 [.ref p, .ref q], aI E p 16 f, aI E q 16 m, aB E kk 32 fk, aB E nn 12 fn, aB E rr n row] [(0, .ref h), (1, .ref rr), (2, .ref kk), (3, .ref nn), (4, .int ctr)] 0 0 0 []
  refine j_aload_n hg 0 dC_fill_0 rfl rfl ?_
  refine j_aload_n hg 2 dC_fill_1 rfl rfl ?_
  refine j_aload_n hg 3 dC_fill_2 rfl rfl ?_
  refine j_iload hg 4 dC_fill_3 rfl ?_
  refine j_callV hg (n := 3) (y := yC_lay) (rm := rm_C_lay) (Ws := (cT yC_lay cC_lay 5 none)) (As := [.ref kk, .ref nn, .int ctr]) (rest := []) (wr := [aI E q 16 m, aB E rr n row]) 0 rfl rfl (c_C_lay l E h p q kk nn f fk fn ctr) (gdV m158 m160 ms1 m2 m161) rfl (by decide +kernel) ⟨by decide, by decide⟩ rfl rfl (Nat.le_of_ble_eq_true rfl) ⟨by decide, by decide⟩ [0, 1, 3, 4] [2, 5] rfl rfl (by decide) (by decide) (by decide) dC_fill_5 (fun _ _ => ?_)
  show J E 6 g [aI E q 16 m, aB E rr n row, ob h 0 [.ref p, .ref q], aI E p 16 (layF f fk fn ctr), aB E kk 32 fk, aB E nn 12 fn] [(0, .ref h), (1, .ref rr), (2, .ref kk), (3, .ref nn), (4, .int ctr)] 0 0 8 []
  refine j_aload_n hg 0 dC_fill_8 rfl rfl ?_
  refine j_get hg (C := RX0) (T := TX0) (N := 2) inX0 2 rfl rfl 0 (by decide) m23 rfl dC_fill_9 ?_
  refine j_iconst hg (v := 0) dC_fill_12 (by decide) ?_
  refine j_aload_n hg 0 dC_fill_13 rfl rfl ?_
  refine j_get hg (C := RX0) (T := TX0) (N := 2) inX0 2 rfl rfl 1 (by decide) m24 rfl dC_fill_14 ?_
  refine j_iconst hg (v := 0) dC_fill_17 (by decide) ?_
  refine j_bipush hg (v := 16) dC_fill_18 (by decide) ?_
  refine j_copyI hg (ws' := [aI E q 16 (va_cpy (layF f fk fn ctr) m 0 0 16), aB E rr n row, ob h 0 [.ref p, .ref q], aI E p 16 (layF f fk fn ctr), aB E kk 32 fk, aB E nn 12 fn]) 3 0 0 0 16 ⟨m169, m141, m140, m6⟩ rfl rfl rfl rfl rfl (by omega) (by omega) (by omega) (by omega) (Nat.le_of_ble_eq_true rfl) (Nat.le_of_ble_eq_true rfl) rfl dC_fill_20 ?_
  refine j_iconst hg (v := 0) dC_fill_23 (by decide) ?_
  refine j_istore hg (lv' := [(5, .int 0), (0, .ref h), (1, .ref rr), (2, .ref kk), (3, .ref nn), (4, .int ctr)]) dC_fill_24 (by decide) rfl ?_
  refine j_sub [2, 3, 0, 4, 5, 1] (ws' := [ob h 0 [.ref p, .ref q], aI E p 16 (layF f fk fn ctr), aI E q 16 (va_cpy (layF f fk fn ctr) m 0 0 16), aB E kk 32 fk, aB E nn 12 fn, aB E rr n row]) rfl (by decide) ?_
  refine j_pick [1, 2, 3, 4, 5, 0] (lv' := [(0, .ref h), (1, .ref rr), (2, .ref kk), (3, .ref nn), (4, .int ctr), (5, .int 0)]) rfl ?_
  have loop : ∀ (zk i : Nat), i + zk = 10 → J E 6 g [ob h 0 [.ref p, .ref q], aI E p 16 (layF f fk fn ctr), aI E q 16 (qrounds (va_cpy (layF f fk fn ctr) m 0 0 16) i), aB E kk 32 fk, aB E nn 12 fn, aB E rr n row] [(0, .ref h), (1, .ref rr), (2, .ref kk), (3, .ref nn), (4, .int ctr), (5, .int (nI i))] 0 0 26 [] := by
    intro zk
    induction zk with
    | zero =>
      intro i  hi
      obtain rfl : 10 = i := by omega
      refine j_iload hg 5 dC_fill_26 rfl ?_
      refine j_bipush hg (v := 10) dC_fill_28 (by decide) ?_
      refine j_nge_t hg (tgt := 47) 10 10 rfl rfl (by omega) (by omega) (by omega) dC_fill_30 (by decide) ?_
      refine j_iconst hg (v := 0) dC_fill_47 (by decide) ?_
      refine j_istore hg (lv' := [(5, .int 0), (0, .ref h), (1, .ref rr), (2, .ref kk), (3, .ref nn), (4, .int ctr)]) dC_fill_48 (by decide) rfl ?_
      refine j_pick [1, 2, 3, 4, 5, 0] (lv' := [(0, .ref h), (1, .ref rr), (2, .ref kk), (3, .ref nn), (4, .int ctr), (5, .int 0)]) rfl ?_
      have loop2 : ∀ (zk i : Nat), i + zk = 16 → J E 6 g [ob h 0 [.ref p, .ref q], aI E p 16 (layF f fk fn ctr), aI E q 16 (qrounds (va_cpy (layF f fk fn ctr) m 0 0 16) 10), aB E kk 32 fk, aB E nn 12 fn, aB E rr n (outF row (qrounds (va_cpy (layF f fk fn ctr) m 0 0 16) 10) (layF f fk fn ctr) i)] [(0, .ref h), (1, .ref rr), (2, .ref kk), (3, .ref nn), (4, .int ctr), (5, .int (nI i))] 0 0 50 [] := by
        intro zk
        induction zk with
        | zero =>
          intro i  hi
          obtain rfl : 16 = i := by omega
          refine j_iload hg 5 dC_fill_50 rfl ?_
          refine j_bipush hg (v := 16) dC_fill_52 (by decide) ?_
          refine j_nge_t hg (tgt := 86) 16 16 rfl rfl (by omega) (by omega) (by omega) dC_fill_54 (by decide) ?_
          exact j_vret hg hR () trivial rfl [0, 1, 2, 3, 4, 5] rfl (by decide) (by decide) (by decide) dC_fill_86
        | succ zk ih =>
          intro i  hi
          refine j_iload hg 5 dC_fill_50 rfl ?_
          refine j_bipush hg (v := 16) dC_fill_52 (by decide) ?_
          refine j_nge_f hg (tgt := 86) i 16 rfl rfl (by omega) (by omega) (by omega) dC_fill_54 (by decide) ?_
          refine j_aload_n hg 1 dC_fill_57 rfl rfl ?_
          refine j_iconst hg (v := 4) dC_fill_58 (by decide) ?_
          refine j_iload hg 5 dC_fill_59 rfl ?_
          refine j_imul hg (v := nI (4 * i)) dC_fill_61 (pk_mul 4 i) ?_
          refine j_aload_n hg 0 dC_fill_62 rfl rfl ?_
          refine j_get hg (C := RX0) (T := TX0) (N := 2) inX0 0 rfl rfl 1 (by decide) m24 rfl dC_fill_63 ?_
          refine j_iload hg 5 dC_fill_66 rfl ?_
          refine j_iald hg (v := (qrounds (va_cpy (layF f fk fn ctr) m 0 0 16) 10) i) 2 i rfl rfl (by omega) (by omega) rfl dC_fill_68 ?_
          refine j_aload_n hg 0 dC_fill_69 rfl rfl ?_
          refine j_get hg (C := RX0) (T := TX0) (N := 2) inX0 0 rfl rfl 0 (by decide) m23 rfl dC_fill_70 ?_
          refine j_iload hg 5 dC_fill_73 rfl ?_
          refine j_iald hg (v := (layF f fk fn ctr) i) 1 i rfl rfl (by omega) (by omega) rfl dC_fill_75 ?_
          refine j_iadd hg (v := ((qrounds (va_cpy (layF f fk fn ctr) m 0 0 16) 10) i) + ((layF f fk fn ctr) i)) dC_fill_76 rfl ?_
          refine j_callSN hg (n := 3) (y := yS_writeLowestFirst) (rm := rm_S_writeLowestFirst) (Ws := (cT yS_writeLowestFirst cS_writeLowestFirst 3 none)) (As := [.ref rr, .int (nI (4 * i)), .int (((qrounds (va_cpy (layF f fk fn ctr) m 0 0 16) 10) i) + ((layF f fk fn ctr) i))]) (rest := []) (wr := [ob h 0 [.ref p, .ref q], aI E p 16 (layF f fk fn ctr), aI E q 16 (qrounds (va_cpy (layF f fk fn ctr) m 0 0 16) 10), aB E kk 32 fk, aB E nn 12 fn]) (host := RX3) (c_S_writeLowestFirst l E rr n (outF row (qrounds (va_cpy (layF f fk fn ctr) m 0 0 16) 10) (layF f fk fn ctr) i) (4 * i) (((qrounds (va_cpy (layF f fk fn ctr) m 0 0 16) 10) i) + ((layF f fk fn ctr) i)) (by omega) (by omega)) (gdT m187) rfl m1 (by decide +kernel) m186 (by decide +kernel) ⟨by decide, by decide⟩ rfl rfl (Nat.le_of_ble_eq_true rfl) ⟨by decide, by decide⟩ [5] [0, 1, 2, 3, 4] rfl rfl (by decide) (by decide) (by decide) dC_fill_77 (fun _ _ => ?_)
          show J E 6 g [ob h 0 [.ref p, .ref q], aI E p 16 (layF f fk fn ctr), aI E q 16 (qrounds (va_cpy (layF f fk fn ctr) m 0 0 16) 10), aB E kk 32 fk, aB E nn 12 fn, aB E rr n (wl (outF row (qrounds (va_cpy (layF f fk fn ctr) m 0 0 16) 10) (layF f fk fn ctr) i) (4 * i) (((qrounds (va_cpy (layF f fk fn ctr) m 0 0 16) 10) i) + ((layF f fk fn ctr) i)))] [(0, .ref h), (1, .ref rr), (2, .ref kk), (3, .ref nn), (4, .int ctr), (5, .int (nI i))] 0 0 80 []
          refine j_iinc hg (kq := 5) (v := nI (i + 1)) (lv' := [(5, .int (nI (i + 1))), (0, .ref h), (1, .ref rr), (2, .ref kk), (3, .ref nn), (4, .int ctr)]) dC_fill_80 rfl (nI_add i 1) (by decide) rfl ?_
          refine j_goto hg (tgt := 50) dC_fill_83 (by decide) ?_
          refine j_pick [1, 2, 3, 4, 5, 0] (lv' := [(0, .ref h), (1, .ref rr), (2, .ref kk), (3, .ref nn), (4, .int ctr), (5, .int (nI (i + 1)))]) rfl ?_
          exact ih (i + 1) (by omega)
      exact loop2 (16) 0 (by omega)
    | succ zk ih =>
      intro i  hi
      refine j_iload hg 5 dC_fill_26 rfl ?_
      refine j_bipush hg (v := 10) dC_fill_28 (by decide) ?_
      refine j_nge_f hg (tgt := 47) i 10 rfl rfl (by omega) (by omega) (by omega) dC_fill_30 (by decide) ?_
      refine j_aload_n hg 0 dC_fill_33 rfl rfl ?_
      refine j_callV hg (n := 0) (y := yC_mixColumns) (rm := rm_C_mixColumns) (Ws := (cT yC_mixColumns cC_mixColumns 1 none)) (As := []) (rest := []) (wr := [aI E p 16 (layF f fk fn ctr), aB E kk 32 fk, aB E nn 12 fn, aB E rr n row]) 0 rfl rfl (c_C_mixColumns l E h p q (qrounds (va_cpy (layF f fk fn ctr) m 0 0 16) i)) (gdV m170 m172 ms2 m2 m173) rfl (by decide +kernel) ⟨by decide, by decide⟩ rfl rfl (Nat.le_of_ble_eq_true rfl) ⟨by decide, by decide⟩ [0, 2] [1, 3, 4, 5] rfl rfl (by decide) (by decide) (by decide) dC_fill_34 (fun _ _ => ?_)
      show J E 6 g [aI E p 16 (layF f fk fn ctr), aB E kk 32 fk, aB E nn 12 fn, aB E rr n row, ob h 0 [.ref p, .ref q], aI E q 16 (qcol (qrounds (va_cpy (layF f fk fn ctr) m 0 0 16) i))] [(0, .ref h), (1, .ref rr), (2, .ref kk), (3, .ref nn), (4, .int ctr), (5, .int (nI i))] 0 0 37 []
      refine j_aload_n hg 0 dC_fill_37 rfl rfl ?_
      refine j_callV hg (n := 0) (y := yC_mixDiagonals) (rm := rm_C_mixDiagonals) (Ws := (cT yC_mixDiagonals cC_mixDiagonals 1 none)) (As := []) (rest := []) (wr := [aI E p 16 (layF f fk fn ctr), aB E kk 32 fk, aB E nn 12 fn, aB E rr n row]) 0 rfl rfl (c_C_mixDiagonals l E h p q (qcol (qrounds (va_cpy (layF f fk fn ctr) m 0 0 16) i))) (gdV m181 m183 ms4 m2 m184) rfl (by decide +kernel) ⟨by decide, by decide⟩ rfl rfl (Nat.le_of_ble_eq_true rfl) ⟨by decide, by decide⟩ [4, 5] [0, 1, 2, 3] rfl rfl (by decide) (by decide) (by decide) dC_fill_38 (fun _ _ => ?_)
      show J E 6 g [aI E p 16 (layF f fk fn ctr), aB E kk 32 fk, aB E nn 12 fn, aB E rr n row, ob h 0 [.ref p, .ref q], aI E q 16 (qdia (qcol (qrounds (va_cpy (layF f fk fn ctr) m 0 0 16) i)))] [(0, .ref h), (1, .ref rr), (2, .ref kk), (3, .ref nn), (4, .int ctr), (5, .int (nI i))] 0 0 41 []
      refine j_iinc hg (kq := 5) (v := nI (i + 1)) (lv' := [(5, .int (nI (i + 1))), (0, .ref h), (1, .ref rr), (2, .ref kk), (3, .ref nn), (4, .int ctr)]) dC_fill_41 rfl (nI_add i 1) (by decide) rfl ?_
      refine j_goto hg (tgt := 26) dC_fill_44 (by decide) ?_
      refine j_sub [4, 0, 5, 1, 2, 3] (ws' := [ob h 0 [.ref p, .ref q], aI E p 16 (layF f fk fn ctr), aI E q 16 (qdia (qcol (qrounds (va_cpy (layF f fk fn ctr) m 0 0 16) i))), aB E kk 32 fk, aB E nn 12 fn, aB E rr n row]) rfl (by decide) ?_
      refine j_pick [1, 2, 3, 4, 5, 0] (lv' := [(0, .ref h), (1, .ref rr), (2, .ref kk), (3, .ref nn), (4, .int ctr), (5, .int (nI (i + 1)))]) rfl ?_
      exact ih (i + 1) (by omega)
  exact loop (10) 0 (by omega)

def rm_C_init : Room := { frames := 1, cells := 2, slots := 32, locals := 12 }
set_option maxHeartbeats 1000000 in
set_option maxRecDepth 100000 in
theorem c_C_init (l : Launch) (E : Ev) (h : Nat) : MC E l yC_init (cT yC_init cC_init 1 none) rm_C_init [.ref h] [ob h 0 [.null, .null]] (Nat × Nat) (fun _ => True) (fun u => none) (fun u => [ob h 0 [.ref u.1, .ref u.2], aI E u.1 16 (fun _ => 0), aI E u.2 16 (fun _ => 0)]) := by
  refine MC.of (cc := cC_init) (nL := 1) (ret := none) (by decide) rfl cT_in (Nat.le_of_ble_eq_true rfl) (fun g hg hR => ?_)
  show J E 1 g [ob h 0 [.null, .null]] [(0, .ref h)] 0 0 0 []
  refine j_aload_n hg 0 dC_init_0 rfl rfl ?_
  refine j_objInit hg m22 m15 m16 dC_init_1 (Nat.le_of_ble_eq_true rfl) (Nat.le_of_ble_eq_true rfl) ?_
  refine j_aload_n hg 0 dC_init_4 rfl rfl ?_
  refine j_bipush hg (v := 16) dC_init_5 (by decide) ?_
  refine j_newI hg 16 m31 rfl (by decide) (by decide) (by decide) dC_init_7 (fun q1 => ?_)
  show J E 1 g [ob h 0 [.null, .null], aI E q1 16 (fun _ => 0)] [(0, .ref h)] 1 16 9 [.ref q1, .ref h]
  refine j_putF hg hR (C := RX0) (T := TX0) (N := 2) (ty := (.array .int)) (ws' := [ob h 0 [.ref q1, .null], aI E q1 16 (fun _ => 0)]) inX0 tyX0 tyX0_ok nmX0 0 rfl rfl 0 (by decide) m23 rfl rfl (by decide +kernel) rfl rfl (Nat.le_of_ble_eq_true rfl) rfl dC_init_9 ?_
  refine j_aload_n hg 0 dC_init_12 rfl rfl ?_
  refine j_bipush hg (v := 16) dC_init_13 (by decide) ?_
  refine j_newI hg 16 m31 rfl (by decide) (by decide) (by decide) dC_init_15 (fun q2 => ?_)
  show J E 1 g [ob h 0 [.ref q1, .null], aI E q1 16 (fun _ => 0), aI E q2 16 (fun _ => 0)] [(0, .ref h)] 2 32 17 [.ref q2, .ref h]
  refine j_putF hg hR (C := RX0) (T := TX0) (N := 2) (ty := (.array .int)) (ws' := [ob h 0 [.ref q1, .ref q2], aI E q1 16 (fun _ => 0), aI E q2 16 (fun _ => 0)]) inX0 tyX0 tyX0_ok nmX0 0 rfl rfl 1 (by decide) m24 rfl rfl (by decide +kernel) rfl rfl (Nat.le_of_ble_eq_true rfl) rfl dC_init_17 ?_
  exact j_vret hg hR (q1, q2) trivial rfl [0, 1, 2] rfl (by decide) (by decide) (by decide) dC_init_20
end
section
/-! SHA-256 of the class. -/
def sg1 (x : Int32) : Int32 := tr x 17 ^^^ tr x 19 ^^^ ushr x 10
def sg0 (x : Int32) : Int32 := tr x 7 ^^^ tr x 18 ^^^ ushr x 3
def sp1 (b s : Nat → Int32) : Nat → Nat → Int32
  | 0 => s
  | i + 1 => upd (sp1 b s i) i (rh b (4 * i))
def ext (s : Nat → Int32) (i : Nat) : Nat → Int32 := upd s i (sg1 (s (i - 2)) + s (i - 7) + sg0 (s (i - 15)) + s (i - 16))
def sp2 (s : Nat → Int32) : Nat → Nat → Int32
  | 0 => s
  | i + 1 => ext (sp2 s i) (16 + i)
def spF (b s : Nat → Int32) : Nat → Int32 := sp2 (sp1 b s 16) 48
def lowF (f : Nat → Int32) (x : Int32) : Int32 := f 7 + (tr (f 4) 6 ^^^ tr (f 4) 11 ^^^ tr (f 4) 25) + ((f 4 &&& f 5) ^^^ ((f 4 ^^^ (-1)) &&& f 6)) + x
def highF (f : Nat → Int32) : Int32 := (tr (f 0) 2 ^^^ tr (f 0) 13 ^^^ tr (f 0) 22) + ((f 0 &&& f 1) ^^^ (f 0 &&& f 2) ^^^ (f 1 &&& f 2))
def shf (f : Nat → Int32) : Nat → Nat → Int32
  | 0 => f
  | i + 1 => upd (shf f i) (7 - i) (shf f i (7 - i - 1))
def mr (f : Nat → Int32) (x : Int32) : Nat → Int32 := upd (upd (shf f 7) 4 (shf f 7 4 + lowF f x)) 0 (lowF f x + highF f)
def mrs (f s : Nat → Int32) : Nat → Nat → Int32
  | 0 => f
  | i + 1 => mr (mrs f s i) (s i + tADDED i)
def addS (st ro : Nat → Int32) : Nat → Nat → Int32
  | 0 => st
  | i + 1 => upd (addS st ro i) i (addS st ro i i + ro i)
/-- state, schedule, round, block, filled, size -/
abbrev HS : Type := (Nat → Int32) × (Nat → Int32) × (Nat → Int32) × (Nat → Int32) × Nat × Nat
def roF (st sc ro : Nat → Int32) : Nat → Int32 := mrs (va_cpy st ro 0 0 8) sc 64
def abF0 (u : HS) (v : Int32) : HS :=
  if u.2.2.2.2.1 = 63 then (addS u.1 (roF u.1 (spF (upd u.2.2.2.1 u.2.2.2.2.1 v) u.2.1) u.2.2.1) 8, spF (upd u.2.2.2.1 u.2.2.2.2.1 v) u.2.1, roF u.1 (spF (upd u.2.2.2.1 u.2.2.2.2.1 v) u.2.1) u.2.2.1, upd u.2.2.2.1 u.2.2.2.2.1 v, 0, u.2.2.2.2.2 + 1)
  else (u.1, u.2.1, u.2.2.1, upd u.2.2.2.1 u.2.2.2.2.1 v, u.2.2.2.2.1 + 1, u.2.2.2.2.2 + 1)
/-- the same, as a name that no unfolding opens -/
noncomputable def abF : HS → Int32 → HS := Classical.choose (⟨abF0, rfl⟩ : ∃ F : HS → Int32 → HS, F = abF0)
theorem abF_eq (u : HS) (v : Int32) : abF u v = abF0 u v := congrFun (congrFun (Classical.choose_spec (⟨abF0, rfl⟩ : ∃ F : HS → Int32 → HS, F = abF0)) u) v
theorem abF_lt {u : HS} {v : Int32} (h : u.2.2.2.2.1 < 64) : (abF u v).2.2.2.2.1 < 64 := by
  rw [abF_eq]
  unfold abF0
  split
  · show (0 : Nat) < 64
    decide
  · show u.2.2.2.2.1 + 1 < 64
    omega

def rm_H_spreadBlock : Room := { frames := 1, cells := 0, slots := 0, locals := 21 }
set_option maxHeartbeats 1000000 in
set_option maxRecDepth 100000 in
theorem c_H_spreadBlock (l : Launch) (E : Ev) (h a1 a2 a3 a4 k z : Nat) (b s : Nat → Int32) : MC E l yH_spreadBlock (cT yH_spreadBlock cH_spreadBlock 6 none) rm_H_spreadBlock [.ref h] [ob h 2 [.ref a1, .ref a2, .ref a3, .ref a4, .int (nI k), .int (nI z)], aI E a2 64 s, aB E a4 64 b] Unit (fun _ => True) (fun _ => none) (fun _ => [ob h 2 [.ref a1, .ref a2, .ref a3, .ref a4, .int (nI k), .int (nI z)], aI E a2 64 (spF b s), aB E a4 64 b]) := by
  refine MC.of (cc := cH_spreadBlock) (nL := 6) (ret := none) (by decide) rfl cT_in (Nat.le_of_ble_eq_true rfl) (fun g hg hR => ?_)
  show J E 6 g [ob h 2 [.ref a1, .ref a2, .ref a3, .ref a4, .int (nI k), .int (nI z)], aI E a2 64 s, aB E a4 64 b] [(0, .ref h)] 0 0 0 []
  refine j_iconst hg (v := 0) dH_spreadBlock_0 (by decide) ?_
  refine j_istore_n hg (lv' := [(1, .int 0), (0, .ref h)]) dH_spreadBlock_1 rfl (by decide) rfl ?_
  refine j_pick [1, 0] (lv' := [(0, .ref h), (1, .int 0)]) rfl ?_
  have loop : ∀ (zk i : Nat), i + zk = 16 → J E 6 g [ob h 2 [.ref a1, .ref a2, .ref a3, .ref a4, .int (nI k), .int (nI z)], aI E a2 64 (sp1 b s i), aB E a4 64 b] [(0, .ref h), (1, .int (nI i))] 0 0 2 [] := by
    intro zk
    induction zk with
    | zero =>
      intro i  hi
      obtain rfl : 16 = i := by omega
      refine j_iload_n hg 1 dH_spreadBlock_2 rfl rfl ?_
      refine j_bipush hg (v := 16) dH_spreadBlock_3 (by decide) ?_
      refine j_nge_t hg (tgt := 30) 16 16 rfl rfl (by omega) (by omega) (by omega) dH_spreadBlock_5 (by decide) ?_
      refine j_bipush hg (v := 16) dH_spreadBlock_30 (by decide) ?_
      refine j_istore_n hg (lv' := [(1, .int 16), (0, .ref h)]) dH_spreadBlock_32 rfl (by decide) rfl ?_
      refine j_pick [1, 0] (lv' := [(0, .ref h), (1, .int 16)]) rfl ?_
      have loop2 : ∀ (zk i : Nat), i + zk = 48 → J E 6 g [ob h 2 [.ref a1, .ref a2, .ref a3, .ref a4, .int (nI k), .int (nI z)], aI E a2 64 (sp2 (sp1 b s 16) i), aB E a4 64 b] [(0, .ref h), (1, .int (nI (16 + i)))] 0 0 33 [] := by
        intro zk
        induction zk with
        | zero =>
          intro i  hi
          obtain rfl : 48 = i := by omega
          refine j_iload_n hg 1 dH_spreadBlock_33 rfl rfl ?_
          refine j_bipush hg (v := 64) dH_spreadBlock_34 (by decide) ?_
          refine j_nge_t hg (tgt := 134) (16 + 48) 64 rfl rfl (by omega) (by omega) (by omega) dH_spreadBlock_36 (by decide) ?_
          exact j_vret hg hR () trivial rfl [0, 1, 2] rfl (by decide) (by decide) (by decide) dH_spreadBlock_134
        | succ zk ih =>
          intro i  hi
          refine j_iload_n hg 1 dH_spreadBlock_33 rfl rfl ?_
          refine j_bipush hg (v := 64) dH_spreadBlock_34 (by decide) ?_
          refine j_nge_f hg (tgt := 134) (16 + i) 64 rfl rfl (by omega) (by omega) (by omega) dH_spreadBlock_36 (by decide) ?_
          refine j_aload_n hg 0 dH_spreadBlock_39 rfl rfl ?_
          refine j_get hg (C := RX2) (T := TX2) (N := 6) inX2 0 rfl rfl 1 (by decide) m65 rfl dH_spreadBlock_40 ?_
          refine j_iload_n hg 1 dH_spreadBlock_43 rfl rfl ?_
          refine j_iconst hg (v := 2) dH_spreadBlock_44 (by decide) ?_
          refine j_isub hg (v := nI ((16 + i) - 2)) dH_spreadBlock_45 (pk_sub (a := 16 + i) (b := 2) (by omega)) ?_
          refine j_iald hg (v := (sp2 (sp1 b s 16) i) ((16 + i) - 2)) 1 ((16 + i) - 2) rfl rfl (by omega) (by omega) rfl dH_spreadBlock_46 ?_
          refine j_istore_n hg (lv' := [(2, .int ((sp2 (sp1 b s 16) i) ((16 + i) - 2))), (0, .ref h), (1, .int (nI (16 + i)))]) dH_spreadBlock_47 rfl (by decide) rfl ?_
          refine j_aload_n hg 1 dH_spreadBlock_48 rfl rfl ?_
          refine j_get hg (C := RX2) (T := TX2) (N := 6) inX2 0 rfl rfl 1 (by decide) m65 rfl dH_spreadBlock_49 ?_
          refine j_iload_n hg 2 dH_spreadBlock_52 rfl rfl ?_
          refine j_bipush hg (v := 15) dH_spreadBlock_53 (by decide) ?_
          refine j_isub hg (v := nI ((16 + i) - 15)) dH_spreadBlock_55 (pk_sub (a := 16 + i) (b := 15) (by omega)) ?_
          refine j_iald hg (v := (sp2 (sp1 b s 16) i) ((16 + i) - 15)) 1 ((16 + i) - 15) rfl rfl (by omega) (by omega) rfl dH_spreadBlock_56 ?_
          refine j_istore_n hg (lv' := [(3, .int ((sp2 (sp1 b s 16) i) ((16 + i) - 15))), (2, .int ((sp2 (sp1 b s 16) i) ((16 + i) - 2))), (0, .ref h), (1, .int (nI (16 + i)))]) dH_spreadBlock_57 rfl (by decide) rfl ?_
          refine j_iload_n hg 1 dH_spreadBlock_58 rfl rfl ?_
          refine j_bipush hg (v := 17) dH_spreadBlock_59 (by decide) ?_
          refine j_callSN hg (n := 2) (y := yS_turnRight) (rm := rm_S_turnRight) (Ws := (cT yS_turnRight cS_turnRight 2 (some .int))) (As := [.int ((sp2 (sp1 b s 16) i) ((16 + i) - 2)), .int 17]) (rest := []) (wr := [ob h 2 [.ref a1, .ref a2, .ref a3, .ref a4, .int (nI k), .int (nI z)], aI E a2 64 (sp2 (sp1 b s 16) i), aB E a4 64 b]) (host := RX3) (c_S_turnRight l E ((sp2 (sp1 b s 16) i) ((16 + i) - 2)) 17) (gdT m294) rfl m1 (by decide +kernel) m293 (by decide +kernel) ⟨by decide, by decide⟩ rfl rfl (Nat.le_of_ble_eq_true rfl) ⟨by decide, by decide⟩ [] [0, 1, 2] rfl rfl (by decide) (by decide) (by decide) dH_spreadBlock_61 (fun _ _ => ?_)
          show J E 6 g [ob h 2 [.ref a1, .ref a2, .ref a3, .ref a4, .int (nI k), .int (nI z)], aI E a2 64 (sp2 (sp1 b s 16) i), aB E a4 64 b] [(3, .int ((sp2 (sp1 b s 16) i) ((16 + i) - 15))), (2, .int ((sp2 (sp1 b s 16) i) ((16 + i) - 2))), (0, .ref h), (1, .int (nI (16 + i)))] 0 0 64 [.int (tr ((sp2 (sp1 b s 16) i) ((16 + i) - 2)) 17)]
          refine j_iload_n hg 1 dH_spreadBlock_64 rfl rfl ?_
          refine j_bipush hg (v := 19) dH_spreadBlock_65 (by decide) ?_
          refine j_callSN hg (n := 2) (y := yS_turnRight) (rm := rm_S_turnRight) (Ws := (cT yS_turnRight cS_turnRight 2 (some .int))) (As := [.int ((sp2 (sp1 b s 16) i) ((16 + i) - 2)), .int 19]) (rest := [.int (tr ((sp2 (sp1 b s 16) i) ((16 + i) - 2)) 17)]) (wr := [ob h 2 [.ref a1, .ref a2, .ref a3, .ref a4, .int (nI k), .int (nI z)], aI E a2 64 (sp2 (sp1 b s 16) i), aB E a4 64 b]) (host := RX3) (c_S_turnRight l E ((sp2 (sp1 b s 16) i) ((16 + i) - 2)) 19) (gdT m294) rfl m1 (by decide +kernel) m293 (by decide +kernel) ⟨by decide, by decide⟩ rfl rfl (Nat.le_of_ble_eq_true rfl) ⟨by decide, by decide⟩ [] [0, 1, 2] rfl rfl (by decide) (by decide) (by decide) dH_spreadBlock_67 (fun _ _ => ?_)
          show J E 6 g [ob h 2 [.ref a1, .ref a2, .ref a3, .ref a4, .int (nI k), .int (nI z)], aI E a2 64 (sp2 (sp1 b s 16) i), aB E a4 64 b] [(3, .int ((sp2 (sp1 b s 16) i) ((16 + i) - 15))), (2, .int ((sp2 (sp1 b s 16) i) ((16 + i) - 2))), (0, .ref h), (1, .int (nI (16 + i)))] 0 0 70 [.int (tr ((sp2 (sp1 b s 16) i) ((16 + i) - 2)) 19), .int (tr ((sp2 (sp1 b s 16) i) ((16 + i) - 2)) 17)]
          refine j_ixor hg (v := (tr ((sp2 (sp1 b s 16) i) ((16 + i) - 2)) 17) ^^^ (tr ((sp2 (sp1 b s 16) i) ((16 + i) - 2)) 19)) dH_spreadBlock_70 rfl ?_
          refine j_iload_n hg 1 dH_spreadBlock_71 rfl rfl ?_
          refine j_bipush hg (v := 10) dH_spreadBlock_72 (by decide) ?_
          refine j_iushr hg (v := ushr ((sp2 (sp1 b s 16) i) ((16 + i) - 2)) 10) dH_spreadBlock_74 rfl ?_
          refine j_ixor hg (v := ((tr ((sp2 (sp1 b s 16) i) ((16 + i) - 2)) 17) ^^^ (tr ((sp2 (sp1 b s 16) i) ((16 + i) - 2)) 19)) ^^^ (ushr ((sp2 (sp1 b s 16) i) ((16 + i) - 2)) 10)) dH_spreadBlock_75 rfl ?_
          refine j_istore hg (lv' := [(4, .int (((tr ((sp2 (sp1 b s 16) i) ((16 + i) - 2)) 17) ^^^ (tr ((sp2 (sp1 b s 16) i) ((16 + i) - 2)) 19)) ^^^ (ushr ((sp2 (sp1 b s 16) i) ((16 + i) - 2)) 10))), (3, .int ((sp2 (sp1 b s 16) i) ((16 + i) - 15))), (2, .int ((sp2 (sp1 b s 16) i) ((16 + i) - 2))), (0, .ref h), (1, .int (nI (16 + i)))]) dH_spreadBlock_76 (by decide) rfl ?_
          refine j_iload_n hg 1 dH_spreadBlock_78 rfl rfl ?_
          refine j_bipush hg (v := 7) dH_spreadBlock_79 (by decide) ?_
          refine j_callSN hg (n := 2) (y := yS_turnRight) (rm := rm_S_turnRight) (Ws := (cT yS_turnRight cS_turnRight 2 (some .int))) (As := [.int ((sp2 (sp1 b s 16) i) ((16 + i) - 15)), .int 7]) (rest := []) (wr := [ob h 2 [.ref a1, .ref a2, .ref a3, .ref a4, .int (nI k), .int (nI z)], aI E a2 64 (sp2 (sp1 b s 16) i), aB E a4 64 b]) (host := RX3) (c_S_turnRight l E ((sp2 (sp1 b s 16) i) ((16 + i) - 15)) 7) (gdT m294) rfl m1 (by decide +kernel) m293 (by decide +kernel) ⟨by decide, by decide⟩ rfl rfl (Nat.le_of_ble_eq_true rfl) ⟨by decide, by decide⟩ [] [0, 1, 2] rfl rfl (by decide) (by decide) (by decide) dH_spreadBlock_81 (fun _ _ => ?_)
          show J E 6 g [ob h 2 [.ref a1, .ref a2, .ref a3, .ref a4, .int (nI k), .int (nI z)], aI E a2 64 (sp2 (sp1 b s 16) i), aB E a4 64 b] [(4, .int (((tr ((sp2 (sp1 b s 16) i) ((16 + i) - 2)) 17) ^^^ (tr ((sp2 (sp1 b s 16) i) ((16 + i) - 2)) 19)) ^^^ (ushr ((sp2 (sp1 b s 16) i) ((16 + i) - 2)) 10))), (3, .int ((sp2 (sp1 b s 16) i) ((16 + i) - 15))), (2, .int ((sp2 (sp1 b s 16) i) ((16 + i) - 2))), (0, .ref h), (1, .int (nI (16 + i)))] 0 0 84 [.int (tr ((sp2 (sp1 b s 16) i) ((16 + i) - 15)) 7)]
          refine j_iload_n hg 1 dH_spreadBlock_84 rfl rfl ?_
          refine j_bipush hg (v := 18) dH_spreadBlock_85 (by decide) ?_
          refine j_callSN hg (n := 2) (y := yS_turnRight) (rm := rm_S_turnRight) (Ws := (cT yS_turnRight cS_turnRight 2 (some .int))) (As := [.int ((sp2 (sp1 b s 16) i) ((16 + i) - 15)), .int 18]) (rest := [.int (tr ((sp2 (sp1 b s 16) i) ((16 + i) - 15)) 7)]) (wr := [ob h 2 [.ref a1, .ref a2, .ref a3, .ref a4, .int (nI k), .int (nI z)], aI E a2 64 (sp2 (sp1 b s 16) i), aB E a4 64 b]) (host := RX3) (c_S_turnRight l E ((sp2 (sp1 b s 16) i) ((16 + i) - 15)) 18) (gdT m294) rfl m1 (by decide +kernel) m293 (by decide +kernel) ⟨by decide, by decide⟩ rfl rfl (Nat.le_of_ble_eq_true rfl) ⟨by decide, by decide⟩ [] [0, 1, 2] rfl rfl (by decide) (by decide) (by decide) dH_spreadBlock_87 (fun _ _ => ?_)
          show J E 6 g [ob h 2 [.ref a1, .ref a2, .ref a3, .ref a4, .int (nI k), .int (nI z)], aI E a2 64 (sp2 (sp1 b s 16) i), aB E a4 64 b] [(4, .int (((tr ((sp2 (sp1 b s 16) i) ((16 + i) - 2)) 17) ^^^ (tr ((sp2 (sp1 b s 16) i) ((16 + i) - 2)) 19)) ^^^ (ushr ((sp2 (sp1 b s 16) i) ((16 + i) - 2)) 10))), (3, .int ((sp2 (sp1 b s 16) i) ((16 + i) - 15))), (2, .int ((sp2 (sp1 b s 16) i) ((16 + i) - 2))), (0, .ref h), (1, .int (nI (16 + i)))] 0 0 90 [.int (tr ((sp2 (sp1 b s 16) i) ((16 + i) - 15)) 18), .int (tr ((sp2 (sp1 b s 16) i) ((16 + i) - 15)) 7)]
          refine j_ixor hg (v := (tr ((sp2 (sp1 b s 16) i) ((16 + i) - 15)) 7) ^^^ (tr ((sp2 (sp1 b s 16) i) ((16 + i) - 15)) 18)) dH_spreadBlock_90 rfl ?_
          refine j_iload_n hg 1 dH_spreadBlock_91 rfl rfl ?_
          refine j_iconst hg (v := 3) dH_spreadBlock_92 (by decide) ?_
          refine j_iushr hg (v := ushr ((sp2 (sp1 b s 16) i) ((16 + i) - 15)) 3) dH_spreadBlock_93 rfl ?_
          refine j_ixor hg (v := ((tr ((sp2 (sp1 b s 16) i) ((16 + i) - 15)) 7) ^^^ (tr ((sp2 (sp1 b s 16) i) ((16 + i) - 15)) 18)) ^^^ (ushr ((sp2 (sp1 b s 16) i) ((16 + i) - 15)) 3)) dH_spreadBlock_94 rfl ?_
          refine j_istore hg (lv' := [(5, .int (((tr ((sp2 (sp1 b s 16) i) ((16 + i) - 15)) 7) ^^^ (tr ((sp2 (sp1 b s 16) i) ((16 + i) - 15)) 18)) ^^^ (ushr ((sp2 (sp1 b s 16) i) ((16 + i) - 15)) 3))), (4, .int (((tr ((sp2 (sp1 b s 16) i) ((16 + i) - 2)) 17) ^^^ (tr ((sp2 (sp1 b s 16) i) ((16 + i) - 2)) 19)) ^^^ (ushr ((sp2 (sp1 b s 16) i) ((16 + i) - 2)) 10))), (3, .int ((sp2 (sp1 b s 16) i) ((16 + i) - 15))), (2, .int ((sp2 (sp1 b s 16) i) ((16 + i) - 2))), (0, .ref h), (1, .int (nI (16 + i)))]) dH_spreadBlock_95 (by decide) rfl ?_
          refine j_aload_n hg 4 dH_spreadBlock_97 rfl rfl ?_
          refine j_get hg (C := RX2) (T := TX2) (N := 6) inX2 0 rfl rfl 1 (by decide) m65 rfl dH_spreadBlock_98 ?_
          refine j_iload_n hg 5 dH_spreadBlock_101 rfl rfl ?_
          refine j_iload hg 1 dH_spreadBlock_102 rfl ?_
          refine j_aload_n hg 4 dH_spreadBlock_104 rfl rfl ?_
          refine j_get hg (C := RX2) (T := TX2) (N := 6) inX2 0 rfl rfl 1 (by decide) m65 rfl dH_spreadBlock_105 ?_
          refine j_iload_n hg 5 dH_spreadBlock_108 rfl rfl ?_
          refine j_bipush hg (v := 7) dH_spreadBlock_109 (by decide) ?_
          refine j_isub hg (v := nI ((16 + i) - 7)) dH_spreadBlock_111 (pk_sub (a := 16 + i) (b := 7) (by omega)) ?_
          refine j_iald hg (v := (sp2 (sp1 b s 16) i) ((16 + i) - 7)) 1 ((16 + i) - 7) rfl rfl (by omega) (by omega) rfl dH_spreadBlock_112 ?_
          refine j_iadd hg (v := (((tr ((sp2 (sp1 b s 16) i) ((16 + i) - 2)) 17) ^^^ (tr ((sp2 (sp1 b s 16) i) ((16 + i) - 2)) 19)) ^^^ (ushr ((sp2 (sp1 b s 16) i) ((16 + i) - 2)) 10)) + ((sp2 (sp1 b s 16) i) ((16 + i) - 7))) dH_spreadBlock_113 rfl ?_
          refine j_iload hg 0 dH_spreadBlock_114 rfl ?_
          refine j_iadd hg (v := ((((tr ((sp2 (sp1 b s 16) i) ((16 + i) - 2)) 17) ^^^ (tr ((sp2 (sp1 b s 16) i) ((16 + i) - 2)) 19)) ^^^ (ushr ((sp2 (sp1 b s 16) i) ((16 + i) - 2)) 10)) + ((sp2 (sp1 b s 16) i) ((16 + i) - 7))) + (((tr ((sp2 (sp1 b s 16) i) ((16 + i) - 15)) 7) ^^^ (tr ((sp2 (sp1 b s 16) i) ((16 + i) - 15)) 18)) ^^^ (ushr ((sp2 (sp1 b s 16) i) ((16 + i) - 15)) 3))) dH_spreadBlock_116 rfl ?_
          refine j_aload_n hg 4 dH_spreadBlock_117 rfl rfl ?_
          refine j_get hg (C := RX2) (T := TX2) (N := 6) inX2 0 rfl rfl 1 (by decide) m65 rfl dH_spreadBlock_118 ?_
          refine j_iload_n hg 5 dH_spreadBlock_121 rfl rfl ?_
          refine j_bipush hg (v := 16) dH_spreadBlock_122 (by decide) ?_
          refine j_isub hg (v := nI ((16 + i) - 16)) dH_spreadBlock_124 (pk_sub (a := 16 + i) (b := 16) (by omega)) ?_
          refine j_iald hg (v := (sp2 (sp1 b s 16) i) ((16 + i) - 16)) 1 ((16 + i) - 16) rfl rfl (by omega) (by omega) rfl dH_spreadBlock_125 ?_
          refine j_iadd hg (v := (((((tr ((sp2 (sp1 b s 16) i) ((16 + i) - 2)) 17) ^^^ (tr ((sp2 (sp1 b s 16) i) ((16 + i) - 2)) 19)) ^^^ (ushr ((sp2 (sp1 b s 16) i) ((16 + i) - 2)) 10)) + ((sp2 (sp1 b s 16) i) ((16 + i) - 7))) + (((tr ((sp2 (sp1 b s 16) i) ((16 + i) - 15)) 7) ^^^ (tr ((sp2 (sp1 b s 16) i) ((16 + i) - 15)) 18)) ^^^ (ushr ((sp2 (sp1 b s 16) i) ((16 + i) - 15)) 3))) + ((sp2 (sp1 b s 16) i) ((16 + i) - 16))) dH_spreadBlock_126 rfl ?_
          refine j_iast hg (ws' := [ob h 2 [.ref a1, .ref a2, .ref a3, .ref a4, .int (nI k), .int (nI z)], aI E a2 64 (ext (sp2 (sp1 b s 16) i) (16 + i)), aB E a4 64 b]) 1 (16 + i) rfl rfl (by omega) (by omega) rfl dH_spreadBlock_127 ?_
          refine j_iinc hg (kq := 5) (v := nI (16 + (i + 1))) (lv' := [(1, .int (nI (16 + (i + 1)))), (5, .int (((tr ((sp2 (sp1 b s 16) i) ((16 + i) - 15)) 7) ^^^ (tr ((sp2 (sp1 b s 16) i) ((16 + i) - 15)) 18)) ^^^ (ushr ((sp2 (sp1 b s 16) i) ((16 + i) - 15)) 3))), (4, .int (((tr ((sp2 (sp1 b s 16) i) ((16 + i) - 2)) 17) ^^^ (tr ((sp2 (sp1 b s 16) i) ((16 + i) - 2)) 19)) ^^^ (ushr ((sp2 (sp1 b s 16) i) ((16 + i) - 2)) 10))), (3, .int ((sp2 (sp1 b s 16) i) ((16 + i) - 15))), (2, .int ((sp2 (sp1 b s 16) i) ((16 + i) - 2))), (0, .ref h)]) dH_spreadBlock_128 rfl (Eq.trans (nI_add (16 + i) 1) (congrArg nI (by omega))) (by decide) rfl ?_
          refine j_goto hg (tgt := 33) dH_spreadBlock_131 (by decide) ?_
          refine j_pick [5, 0] (lv' := [(0, .ref h), (1, .int (nI (16 + (i + 1))))]) rfl ?_
          exact ih (i + 1) (by omega)
      exact loop2 (48) 0 (by omega)
    | succ zk ih =>
      intro i  hi
      refine j_iload_n hg 1 dH_spreadBlock_2 rfl rfl ?_
      refine j_bipush hg (v := 16) dH_spreadBlock_3 (by decide) ?_
      refine j_nge_f hg (tgt := 30) i 16 rfl rfl (by omega) (by omega) (by omega) dH_spreadBlock_5 (by decide) ?_
      refine j_aload_n hg 0 dH_spreadBlock_8 rfl rfl ?_
      refine j_get hg (C := RX2) (T := TX2) (N := 6) inX2 0 rfl rfl 1 (by decide) m65 rfl dH_spreadBlock_9 ?_
      refine j_iload_n hg 1 dH_spreadBlock_12 rfl rfl ?_
      refine j_aload_n hg 0 dH_spreadBlock_13 rfl rfl ?_
      refine j_get hg (C := RX2) (T := TX2) (N := 6) inX2 0 rfl rfl 3 (by decide) m67 rfl dH_spreadBlock_14 ?_
      refine j_iconst hg (v := 4) dH_spreadBlock_17 (by decide) ?_
      refine j_iload_n hg 1 dH_spreadBlock_18 rfl rfl ?_
      refine j_imul hg (v := nI (4 * i)) dH_spreadBlock_19 (pk_mul 4 i) ?_
      refine j_callSN hg (n := 2) (y := yS_readHighestFirst) (rm := rm_S_readHighestFirst) (Ws := (cT yS_readHighestFirst cS_readHighestFirst 2 (some .int))) (As := [.ref a4, .int (nI (4 * i))]) (rest := [.int (nI i), .ref a2]) (wr := [ob h 2 [.ref a1, .ref a2, .ref a3, .ref a4, .int (nI k), .int (nI z)], aI E a2 64 (sp1 b s i)]) (host := RX3) (c_S_readHighestFirst l E a4 64 b (4 * i) (by omega) (by omega)) (gdT m291) rfl m1 (by decide +kernel) m290 (by decide +kernel) ⟨by decide, by decide⟩ rfl rfl (Nat.le_of_ble_eq_true rfl) ⟨by decide, by decide⟩ [2] [0, 1] rfl rfl (by decide) (by decide) (by decide) dH_spreadBlock_20 (fun _ _ => ?_)
      show J E 6 g [ob h 2 [.ref a1, .ref a2, .ref a3, .ref a4, .int (nI k), .int (nI z)], aI E a2 64 (sp1 b s i), aB E a4 64 b] [(0, .ref h), (1, .int (nI i))] 0 0 23 [.int (rh b (4 * i)), .int (nI i), .ref a2]
      refine j_iast hg (ws' := [ob h 2 [.ref a1, .ref a2, .ref a3, .ref a4, .int (nI k), .int (nI z)], aI E a2 64 (upd (sp1 b s i) i (rh b (4 * i))), aB E a4 64 b]) 1 i rfl rfl (by omega) (by omega) rfl dH_spreadBlock_23 ?_
      refine j_iinc hg (kq := 1) (v := nI (i + 1)) (lv' := [(1, .int (nI (i + 1))), (0, .ref h)]) dH_spreadBlock_24 rfl (nI_add i 1) (by decide) rfl ?_
      refine j_goto hg (tgt := 2) dH_spreadBlock_27 (by decide) ?_
      refine j_pick [1, 0] (lv' := [(0, .ref h), (1, .int (nI (i + 1)))]) rfl ?_
      exact ih (i + 1) (by omega)
  exact loop (16) 0 (by omega)

def rm_H_mixRound : Room := { frames := 1, cells := 0, slots := 0, locals := 21 }
set_option maxHeartbeats 1000000 in
set_option maxRecDepth 100000 in
theorem c_H_mixRound (l : Launch) (E : Ev) (h a1 a2 a3 a4 k z : Nat) (f : Nat → Int32) (x : Int32) : MC E l yH_mixRound (cT yH_mixRound cH_mixRound 9 none) rm_H_mixRound [.ref h, .int x] [ob h 2 [.ref a1, .ref a2, .ref a3, .ref a4, .int (nI k), .int (nI z)], aI E a3 8 f] Unit (fun _ => True) (fun _ => none) (fun _ => [ob h 2 [.ref a1, .ref a2, .ref a3, .ref a4, .int (nI k), .int (nI z)], aI E a3 8 (mr f x)]) := by
  refine MC.of (cc := cH_mixRound) (nL := 9) (ret := none) (by decide) rfl cT_in (Nat.le_of_ble_eq_true rfl) (fun g hg hR => ?_)
  show J E 9 g [ob h 2 [.ref a1, .ref a2, .ref a3, .ref a4, .int (nI k), .int (nI z)], aI E a3 8 f] [(0, .ref h), (1, .int x)] 0 0 0 []
  refine j_aload_n hg 0 dH_mixRound_0 rfl rfl ?_
  refine j_get hg (C := RX2) (T := TX2) (N := 6) inX2 0 rfl rfl 2 (by decide) m66 rfl dH_mixRound_1 ?_
  refine j_iconst hg (v := 0) dH_mixRound_4 (by decide) ?_
  refine j_iald hg (v := f 0) 1 0 rfl rfl (by omega) (by omega) rfl dH_mixRound_5 ?_
  refine j_istore_n hg (lv' := [(2, .int (f 0)), (0, .ref h), (1, .int x)]) dH_mixRound_6 rfl (by decide) rfl ?_
  refine j_aload_n hg 1 dH_mixRound_7 rfl rfl ?_
  refine j_get hg (C := RX2) (T := TX2) (N := 6) inX2 0 rfl rfl 2 (by decide) m66 rfl dH_mixRound_8 ?_
  refine j_iconst hg (v := 4) dH_mixRound_11 (by decide) ?_
  refine j_iald hg (v := f 4) 1 4 rfl rfl (by omega) (by omega) rfl dH_mixRound_12 ?_
  refine j_istore_n hg (lv' := [(3, .int (f 4)), (2, .int (f 0)), (0, .ref h), (1, .int x)]) dH_mixRound_13 rfl (by decide) rfl ?_
  refine j_iload_n hg 0 dH_mixRound_14 rfl rfl ?_
  refine j_aload_n hg 2 dH_mixRound_15 rfl rfl ?_
  refine j_get hg (C := RX2) (T := TX2) (N := 6) inX2 0 rfl rfl 2 (by decide) m66 rfl dH_mixRound_16 ?_
  refine j_iconst hg (v := 5) dH_mixRound_19 (by decide) ?_
  refine j_iald hg (v := f 5) 1 5 rfl rfl (by omega) (by omega) rfl dH_mixRound_20 ?_
  refine j_iand hg (v := (f 4) &&& (f 5)) dH_mixRound_21 rfl ?_
  refine j_iload_n hg 0 dH_mixRound_22 rfl rfl ?_
  refine j_iconst hg (v := -1) dH_mixRound_23 (by decide) ?_
  refine j_ixor hg (v := (f 4) ^^^ (-1)) dH_mixRound_24 rfl ?_
  refine j_aload_n hg 2 dH_mixRound_25 rfl rfl ?_
  refine j_get hg (C := RX2) (T := TX2) (N := 6) inX2 0 rfl rfl 2 (by decide) m66 rfl dH_mixRound_26 ?_
  refine j_bipush hg (v := 6) dH_mixRound_29 (by decide) ?_
  refine j_iald hg (v := f 6) 1 6 rfl rfl (by omega) (by omega) rfl dH_mixRound_31 ?_
  refine j_iand hg (v := ((f 4) ^^^ (-1)) &&& (f 6)) dH_mixRound_32 rfl ?_
  refine j_ixor hg (v := ((f 4) &&& (f 5)) ^^^ (((f 4) ^^^ (-1)) &&& (f 6))) dH_mixRound_33 rfl ?_
  refine j_istore hg (lv' := [(4, .int (((f 4) &&& (f 5)) ^^^ (((f 4) ^^^ (-1)) &&& (f 6)))), (3, .int (f 4)), (2, .int (f 0)), (0, .ref h), (1, .int x)]) dH_mixRound_34 (by decide) rfl ?_
  refine j_iload_n hg 2 dH_mixRound_36 rfl rfl ?_
  refine j_aload_n hg 3 dH_mixRound_37 rfl rfl ?_
  refine j_get hg (C := RX2) (T := TX2) (N := 6) inX2 0 rfl rfl 2 (by decide) m66 rfl dH_mixRound_38 ?_
  refine j_iconst hg (v := 1) dH_mixRound_41 (by decide) ?_
  refine j_iald hg (v := f 1) 1 1 rfl rfl (by omega) (by omega) rfl dH_mixRound_42 ?_
  refine j_iand hg (v := (f 0) &&& (f 1)) dH_mixRound_43 rfl ?_
  refine j_iload_n hg 2 dH_mixRound_44 rfl rfl ?_
  refine j_aload_n hg 3 dH_mixRound_45 rfl rfl ?_
  refine j_get hg (C := RX2) (T := TX2) (N := 6) inX2 0 rfl rfl 2 (by decide) m66 rfl dH_mixRound_46 ?_
  refine j_iconst hg (v := 2) dH_mixRound_49 (by decide) ?_
  refine j_iald hg (v := f 2) 1 2 rfl rfl (by omega) (by omega) rfl dH_mixRound_50 ?_
  refine j_iand hg (v := (f 0) &&& (f 2)) dH_mixRound_51 rfl ?_
  refine j_ixor hg (v := ((f 0) &&& (f 1)) ^^^ ((f 0) &&& (f 2))) dH_mixRound_52 rfl ?_
  refine j_aload_n hg 3 dH_mixRound_53 rfl rfl ?_
  refine j_get hg (C := RX2) (T := TX2) (N := 6) inX2 0 rfl rfl 2 (by decide) m66 rfl dH_mixRound_54 ?_
  refine j_iconst hg (v := 1) dH_mixRound_57 (by decide) ?_
  refine j_iald hg (v := f 1) 1 1 rfl rfl (by omega) (by omega) rfl dH_mixRound_58 ?_
  refine j_aload_n hg 3 dH_mixRound_59 rfl rfl ?_
  refine j_get hg (C := RX2) (T := TX2) (N := 6) inX2 0 rfl rfl 2 (by decide) m66 rfl dH_mixRound_60 ?_
  refine j_iconst hg (v := 2) dH_mixRound_63 (by decide) ?_
  refine j_iald hg (v := f 2) 1 2 rfl rfl (by omega) (by omega) rfl dH_mixRound_64 ?_
  refine j_iand hg (v := (f 1) &&& (f 2)) dH_mixRound_65 rfl ?_
  refine j_ixor hg (v := (((f 0) &&& (f 1)) ^^^ ((f 0) &&& (f 2))) ^^^ ((f 1) &&& (f 2))) dH_mixRound_66 rfl ?_
  refine j_istore hg (lv' := [(5, .int ((((f 0) &&& (f 1)) ^^^ ((f 0) &&& (f 2))) ^^^ ((f 1) &&& (f 2)))), (4, .int (((f 4) &&& (f 5)) ^^^ (((f 4) ^^^ (-1)) &&& (f 6)))), (3, .int (f 4)), (2, .int (f 0)), (0, .ref h), (1, .int x)]) dH_mixRound_67 (by decide) rfl ?_
  refine j_aload_n hg 4 dH_mixRound_69 rfl rfl ?_
  refine j_get hg (C := RX2) (T := TX2) (N := 6) inX2 0 rfl rfl 2 (by decide) m66 rfl dH_mixRound_70 ?_
  refine j_bipush hg (v := 7) dH_mixRound_73 (by decide) ?_
  refine j_iald hg (v := f 7) 1 7 rfl rfl (by omega) (by omega) rfl dH_mixRound_75 ?_
  refine j_iload_n hg 2 dH_mixRound_76 rfl rfl ?_
  refine j_bipush hg (v := 6) dH_mixRound_77 (by decide) ?_
  refine j_callSN hg (n := 2) (y := yS_turnRight) (rm := rm_S_turnRight) (Ws := (cT yS_turnRight cS_turnRight 2 (some .int))) (As := [.int (f 4), .int 6]) (rest := [.int (f 7)]) (wr := [ob h 2 [.ref a1, .ref a2, .ref a3, .ref a4, .int (nI k), .int (nI z)], aI E a3 8 f]) (host := RX3) (c_S_turnRight l E (f 4) 6) (gdT m294) rfl m1 (by decide +kernel) m293 (by decide +kernel) ⟨by decide, by decide⟩ rfl rfl (Nat.le_of_ble_eq_true rfl) ⟨by decide, by decide⟩ [] [0, 1] rfl rfl (by decide) (by decide) (by decide) dH_mixRound_79 (fun _ _ => ?_)
  show J E 9 g [ob h 2 [.ref a1, .ref a2, .ref a3, .ref a4, .int (nI k), .int (nI z)], aI E a3 8 f] [(5, .int ((((f 0) &&& (f 1)) ^^^ ((f 0) &&& (f 2))) ^^^ ((f 1) &&& (f 2)))), (4, .int (((f 4) &&& (f 5)) ^^^ (((f 4) ^^^ (-1)) &&& (f 6)))), (3, .int (f 4)), (2, .int (f 0)), (0, .ref h), (1, .int x)] 0 0 82 [.int (tr (f 4) 6), .int (f 7)]
  refine j_iload_n hg 2 dH_mixRound_82 rfl rfl ?_
  refine j_bipush hg (v := 11) dH_mixRound_83 (by decide) ?_
  refine j_callSN hg (n := 2) (y := yS_turnRight) (rm := rm_S_turnRight) (Ws := (cT yS_turnRight cS_turnRight 2 (some .int))) (As := [.int (f 4), .int 11]) (rest := [.int (tr (f 4) 6), .int (f 7)]) (wr := [ob h 2 [.ref a1, .ref a2, .ref a3, .ref a4, .int (nI k), .int (nI z)], aI E a3 8 f]) (host := RX3) (c_S_turnRight l E (f 4) 11) (gdT m294) rfl m1 (by decide +kernel) m293 (by decide +kernel) ⟨by decide, by decide⟩ rfl rfl (Nat.le_of_ble_eq_true rfl) ⟨by decide, by decide⟩ [] [0, 1] rfl rfl (by decide) (by decide) (by decide) dH_mixRound_85 (fun _ _ => ?_)
  show J E 9 g [ob h 2 [.ref a1, .ref a2, .ref a3, .ref a4, .int (nI k), .int (nI z)], aI E a3 8 f] [(5, .int ((((f 0) &&& (f 1)) ^^^ ((f 0) &&& (f 2))) ^^^ ((f 1) &&& (f 2)))), (4, .int (((f 4) &&& (f 5)) ^^^ (((f 4) ^^^ (-1)) &&& (f 6)))), (3, .int (f 4)), (2, .int (f 0)), (0, .ref h), (1, .int x)] 0 0 88 [.int (tr (f 4) 11), .int (tr (f 4) 6), .int (f 7)]
  refine j_ixor hg (v := (tr (f 4) 6) ^^^ (tr (f 4) 11)) dH_mixRound_88 rfl ?_
  refine j_iload_n hg 2 dH_mixRound_89 rfl rfl ?_
  refine j_bipush hg (v := 25) dH_mixRound_90 (by decide) ?_
  refine j_callSN hg (n := 2) (y := yS_turnRight) (rm := rm_S_turnRight) (Ws := (cT yS_turnRight cS_turnRight 2 (some .int))) (As := [.int (f 4), .int 25]) (rest := [.int ((tr (f 4) 6) ^^^ (tr (f 4) 11)), .int (f 7)]) (wr := [ob h 2 [.ref a1, .ref a2, .ref a3, .ref a4, .int (nI k), .int (nI z)], aI E a3 8 f]) (host := RX3) (c_S_turnRight l E (f 4) 25) (gdT m294) rfl m1 (by decide +kernel) m293 (by decide +kernel) ⟨by decide, by decide⟩ rfl rfl (Nat.le_of_ble_eq_true rfl) ⟨by decide, by decide⟩ [] [0, 1] rfl rfl (by decide) (by decide) (by decide) dH_mixRound_92 (fun _ _ => ?_)
  show J E 9 g [ob h 2 [.ref a1, .ref a2, .ref a3, .ref a4, .int (nI k), .int (nI z)], aI E a3 8 f] [(5, .int ((((f 0) &&& (f 1)) ^^^ ((f 0) &&& (f 2))) ^^^ ((f 1) &&& (f 2)))), (4, .int (((f 4) &&& (f 5)) ^^^ (((f 4) ^^^ (-1)) &&& (f 6)))), (3, .int (f 4)), (2, .int (f 0)), (0, .ref h), (1, .int x)] 0 0 95 [.int (tr (f 4) 25), .int ((tr (f 4) 6) ^^^ (tr (f 4) 11)), .int (f 7)]
  refine j_ixor hg (v := ((tr (f 4) 6) ^^^ (tr (f 4) 11)) ^^^ (tr (f 4) 25)) dH_mixRound_95 rfl ?_
  refine j_iadd hg (v := (f 7) + (((tr (f 4) 6) ^^^ (tr (f 4) 11)) ^^^ (tr (f 4) 25))) dH_mixRound_96 rfl ?_
  refine j_iload hg 1 dH_mixRound_97 rfl ?_
  refine j_iadd hg (v := ((f 7) + (((tr (f 4) 6) ^^^ (tr (f 4) 11)) ^^^ (tr (f 4) 25))) + (((f 4) &&& (f 5)) ^^^ (((f 4) ^^^ (-1)) &&& (f 6)))) dH_mixRound_99 rfl ?_
  refine j_iload_n hg 5 dH_mixRound_100 rfl rfl ?_
  refine j_iadd hg (v := (((f 7) + (((tr (f 4) 6) ^^^ (tr (f 4) 11)) ^^^ (tr (f 4) 25))) + (((f 4) &&& (f 5)) ^^^ (((f 4) ^^^ (-1)) &&& (f 6)))) + x) dH_mixRound_101 rfl ?_
  refine j_topi (show ((((f 7) + (((tr (f 4) 6) ^^^ (tr (f 4) 11)) ^^^ (tr (f 4) 25))) + (((f 4) &&& (f 5)) ^^^ (((f 4) ^^^ (-1)) &&& (f 6)))) + x) = (lowF f x) from rfl) ?_
  refine j_istore hg (lv' := [(6, .int (lowF f x)), (5, .int ((((f 0) &&& (f 1)) ^^^ ((f 0) &&& (f 2))) ^^^ ((f 1) &&& (f 2)))), (4, .int (((f 4) &&& (f 5)) ^^^ (((f 4) ^^^ (-1)) &&& (f 6)))), (3, .int (f 4)), (2, .int (f 0)), (0, .ref h), (1, .int x)]) dH_mixRound_102 (by decide) rfl ?_
  refine j_iload_n hg 4 dH_mixRound_104 rfl rfl ?_
  refine j_iconst hg (v := 2) dH_mixRound_105 (by decide) ?_
  refine j_callSN hg (n := 2) (y := yS_turnRight) (rm := rm_S_turnRight) (Ws := (cT yS_turnRight cS_turnRight 2 (some .int))) (As := [.int (f 0), .int 2]) (rest := []) (wr := [ob h 2 [.ref a1, .ref a2, .ref a3, .ref a4, .int (nI k), .int (nI z)], aI E a3 8 f]) (host := RX3) (c_S_turnRight l E (f 0) 2) (gdT m294) rfl m1 (by decide +kernel) m293 (by decide +kernel) ⟨by decide, by decide⟩ rfl rfl (Nat.le_of_ble_eq_true rfl) ⟨by decide, by decide⟩ [] [0, 1] rfl rfl (by decide) (by decide) (by decide) dH_mixRound_106 (fun _ _ => ?_)
  show J E 9 g [ob h 2 [.ref a1, .ref a2, .ref a3, .ref a4, .int (nI k), .int (nI z)], aI E a3 8 f] [(6, .int (lowF f x)), (5, .int ((((f 0) &&& (f 1)) ^^^ ((f 0) &&& (f 2))) ^^^ ((f 1) &&& (f 2)))), (4, .int (((f 4) &&& (f 5)) ^^^ (((f 4) ^^^ (-1)) &&& (f 6)))), (3, .int (f 4)), (2, .int (f 0)), (0, .ref h), (1, .int x)] 0 0 109 [.int (tr (f 0) 2)]
  refine j_iload_n hg 4 dH_mixRound_109 rfl rfl ?_
  refine j_bipush hg (v := 13) dH_mixRound_110 (by decide) ?_
  refine j_callSN hg (n := 2) (y := yS_turnRight) (rm := rm_S_turnRight) (Ws := (cT yS_turnRight cS_turnRight 2 (some .int))) (As := [.int (f 0), .int 13]) (rest := [.int (tr (f 0) 2)]) (wr := [ob h 2 [.ref a1, .ref a2, .ref a3, .ref a4, .int (nI k), .int (nI z)], aI E a3 8 f]) (host := RX3) (c_S_turnRight l E (f 0) 13) (gdT m294) rfl m1 (by decide +kernel) m293 (by decide +kernel) ⟨by decide, by decide⟩ rfl rfl (Nat.le_of_ble_eq_true rfl) ⟨by decide, by decide⟩ [] [0, 1] rfl rfl (by decide) (by decide) (by decide) dH_mixRound_112 (fun _ _ => ?_)
  show J E 9 g [ob h 2 [.ref a1, .ref a2, .ref a3, .ref a4, .int (nI k), .int (nI z)], aI E a3 8 f] [(6, .int (lowF f x)), (5, .int ((((f 0) &&& (f 1)) ^^^ ((f 0) &&& (f 2))) ^^^ ((f 1) &&& (f 2)))), (4, .int (((f 4) &&& (f 5)) ^^^ (((f 4) ^^^ (-1)) &&& (f 6)))), (3, .int (f 4)), (2, .int (f 0)), (0, .ref h), (1, .int x)] 0 0 115 [.int (tr (f 0) 13), .int (tr (f 0) 2)]
  refine j_ixor hg (v := (tr (f 0) 2) ^^^ (tr (f 0) 13)) dH_mixRound_115 rfl ?_
  refine j_iload_n hg 4 dH_mixRound_116 rfl rfl ?_
  refine j_bipush hg (v := 22) dH_mixRound_117 (by decide) ?_
  refine j_callSN hg (n := 2) (y := yS_turnRight) (rm := rm_S_turnRight) (Ws := (cT yS_turnRight cS_turnRight 2 (some .int))) (As := [.int (f 0), .int 22]) (rest := [.int ((tr (f 0) 2) ^^^ (tr (f 0) 13))]) (wr := [ob h 2 [.ref a1, .ref a2, .ref a3, .ref a4, .int (nI k), .int (nI z)], aI E a3 8 f]) (host := RX3) (c_S_turnRight l E (f 0) 22) (gdT m294) rfl m1 (by decide +kernel) m293 (by decide +kernel) ⟨by decide, by decide⟩ rfl rfl (Nat.le_of_ble_eq_true rfl) ⟨by decide, by decide⟩ [] [0, 1] rfl rfl (by decide) (by decide) (by decide) dH_mixRound_119 (fun _ _ => ?_)
  show J E 9 g [ob h 2 [.ref a1, .ref a2, .ref a3, .ref a4, .int (nI k), .int (nI z)], aI E a3 8 f] [(6, .int (lowF f x)), (5, .int ((((f 0) &&& (f 1)) ^^^ ((f 0) &&& (f 2))) ^^^ ((f 1) &&& (f 2)))), (4, .int (((f 4) &&& (f 5)) ^^^ (((f 4) ^^^ (-1)) &&& (f 6)))), (3, .int (f 4)), (2, .int (f 0)), (0, .ref h), (1, .int x)] 0 0 122 [.int (tr (f 0) 22), .int ((tr (f 0) 2) ^^^ (tr (f 0) 13))]
  refine j_ixor hg (v := ((tr (f 0) 2) ^^^ (tr (f 0) 13)) ^^^ (tr (f 0) 22)) dH_mixRound_122 rfl ?_
  refine j_iload hg 1 dH_mixRound_123 rfl ?_
  refine j_iadd hg (v := (((tr (f 0) 2) ^^^ (tr (f 0) 13)) ^^^ (tr (f 0) 22)) + ((((f 0) &&& (f 1)) ^^^ ((f 0) &&& (f 2))) ^^^ ((f 1) &&& (f 2)))) dH_mixRound_125 rfl ?_
  refine j_topi (show ((((tr (f 0) 2) ^^^ (tr (f 0) 13)) ^^^ (tr (f 0) 22)) + ((((f 0) &&& (f 1)) ^^^ ((f 0) &&& (f 2))) ^^^ ((f 1) &&& (f 2)))) = (highF f) from rfl) ?_
  refine j_istore hg (lv' := [(7, .int (highF f)), (6, .int (lowF f x)), (5, .int ((((f 0) &&& (f 1)) ^^^ ((f 0) &&& (f 2))) ^^^ ((f 1) &&& (f 2)))), (4, .int (((f 4) &&& (f 5)) ^^^ (((f 4) ^^^ (-1)) &&& (f 6)))), (3, .int (f 4)), (2, .int (f 0)), (0, .ref h), (1, .int x)]) dH_mixRound_126 (by decide) rfl ?_
  refine j_bipush hg (v := 7) dH_mixRound_128 (by decide) ?_
  refine j_istore hg (lv' := [(8, .int 7), (7, .int (highF f)), (6, .int (lowF f x)), (5, .int ((((f 0) &&& (f 1)) ^^^ ((f 0) &&& (f 2))) ^^^ ((f 1) &&& (f 2)))), (4, .int (((f 4) &&& (f 5)) ^^^ (((f 4) ^^^ (-1)) &&& (f 6)))), (3, .int (f 4)), (2, .int (f 0)), (0, .ref h), (1, .int x)]) dH_mixRound_130 (by decide) rfl ?_
  refine j_pick [7, 8, 6, 5, 2, 1, 0] (lv' := [(0, .ref h), (1, .int x), (2, .int (f 0)), (3, .int (f 4)), (6, .int (lowF f x)), (7, .int (highF f)), (8, .int 7)]) rfl ?_
  have loop : ∀ (zk i : Nat), i + zk = 7 → J E 9 g [ob h 2 [.ref a1, .ref a2, .ref a3, .ref a4, .int (nI k), .int (nI z)], aI E a3 8 (shf f i)] [(0, .ref h), (1, .int x), (2, .int (f 0)), (3, .int (f 4)), (6, .int (lowF f x)), (7, .int (highF f)), (8, .int (nI (7 - i)))] 0 0 132 [] := by
    intro zk
    induction zk with
    | zero =>
      intro i  hi
      obtain rfl : 7 = i := by omega
      refine j_iload hg 6 dH_mixRound_132 rfl ?_
      refine j_zle_t hg (tgt := 159) (7 - 7) rfl (by omega) (by omega) dH_mixRound_134 (by decide) ?_
      refine j_aload_n hg 0 dH_mixRound_159 rfl rfl ?_
      refine j_get hg (C := RX2) (T := TX2) (N := 6) inX2 0 rfl rfl 2 (by decide) m66 rfl dH_mixRound_160 ?_
      refine j_iconst hg (v := 4) dH_mixRound_163 (by decide) ?_
      refine j_dup2_11 hg dH_mixRound_164 rfl rfl ?_
      refine j_iald hg (v := (shf f 7) 4) 1 4 rfl rfl (by omega) (by omega) rfl dH_mixRound_165 ?_
      refine j_iload hg 4 dH_mixRound_166 rfl ?_
      refine j_iadd hg (v := ((shf f 7) 4) + (lowF f x)) dH_mixRound_168 rfl ?_
      refine j_iast hg (ws' := [ob h 2 [.ref a1, .ref a2, .ref a3, .ref a4, .int (nI k), .int (nI z)], aI E a3 8 (upd (shf f 7) 4 (((shf f 7) 4) + (lowF f x)))]) 1 4 rfl rfl (by omega) (by omega) rfl dH_mixRound_169 ?_
      refine j_aload_n hg 0 dH_mixRound_170 rfl rfl ?_
      refine j_get hg (C := RX2) (T := TX2) (N := 6) inX2 0 rfl rfl 2 (by decide) m66 rfl dH_mixRound_171 ?_
      refine j_iconst hg (v := 0) dH_mixRound_174 (by decide) ?_
      refine j_iload hg 4 dH_mixRound_175 rfl ?_
      refine j_iload hg 5 dH_mixRound_177 rfl ?_
      refine j_iadd hg (v := (lowF f x) + (highF f)) dH_mixRound_179 rfl ?_
      refine j_iast hg (ws' := [ob h 2 [.ref a1, .ref a2, .ref a3, .ref a4, .int (nI k), .int (nI z)], aI E a3 8 (upd (upd (shf f 7) 4 (((shf f 7) 4) + (lowF f x))) 0 ((lowF f x) + (highF f)))]) 1 0 rfl rfl (by omega) (by omega) rfl dH_mixRound_180 ?_
      exact j_vret hg hR () trivial rfl [0, 1] rfl (by decide) (by decide) (by decide) dH_mixRound_181
    | succ zk ih =>
      intro i  hi
      refine j_iload hg 6 dH_mixRound_132 rfl ?_
      refine j_zle_f hg (tgt := 159) (7 - i) rfl (by omega) (by omega) dH_mixRound_134 (by decide) ?_
      refine j_aload_n hg 0 dH_mixRound_137 rfl rfl ?_
      refine j_get hg (C := RX2) (T := TX2) (N := 6) inX2 0 rfl rfl 2 (by decide) m66 rfl dH_mixRound_138 ?_
      refine j_iload hg 6 dH_mixRound_141 rfl ?_
      refine j_aload_n hg 0 dH_mixRound_143 rfl rfl ?_
      refine j_get hg (C := RX2) (T := TX2) (N := 6) inX2 0 rfl rfl 2 (by decide) m66 rfl dH_mixRound_144 ?_
      refine j_iload hg 6 dH_mixRound_147 rfl ?_
      refine j_iconst hg (v := 1) dH_mixRound_149 (by decide) ?_
      refine j_isub hg (v := nI ((7 - i) - 1)) dH_mixRound_150 (pk_sub (a := 7 - i) (b := 1) (by omega)) ?_
      refine j_iald hg (v := (shf f i) ((7 - i) - 1)) 1 ((7 - i) - 1) rfl rfl (by omega) (by omega) rfl dH_mixRound_151 ?_
      refine j_iast hg (ws' := [ob h 2 [.ref a1, .ref a2, .ref a3, .ref a4, .int (nI k), .int (nI z)], aI E a3 8 (upd (shf f i) (7 - i) ((shf f i) ((7 - i) - 1)))]) 1 (7 - i) rfl rfl (by omega) (by omega) rfl dH_mixRound_152 ?_
      refine j_iinc hg (kq := 6) (v := nI (7 - (i + 1))) (lv' := [(8, .int (nI (7 - (i + 1)))), (0, .ref h), (1, .int x), (2, .int (f 0)), (3, .int (f 4)), (6, .int (lowF f x)), (7, .int (highF f))]) dH_mixRound_153 rfl (Eq.trans (nI_dec (7 - i) 1 (by omega)) (congrArg nI (by omega))) (by decide) rfl ?_
      refine j_goto hg (tgt := 132) dH_mixRound_156 (by decide) ?_
      refine j_pick [1, 2, 3, 4, 5, 6, 0] (lv' := [(0, .ref h), (1, .int x), (2, .int (f 0)), (3, .int (f 4)), (6, .int (lowF f x)), (7, .int (highF f)), (8, .int (nI (7 - (i + 1))))]) rfl ?_
      exact ih (i + 1) (by omega)
  exact loop (7) 0 (by omega)

def rm_H_mixBlock : Room := { frames := 2, cells := 0, slots := 0, locals := 49 }
set_option maxHeartbeats 1000000 in
set_option maxRecDepth 100000 in
theorem c_H_mixBlock (l : Launch) (E : Ev) (h a1 a2 a3 a4 k z : Nat) (st sc ro : Nat → Int32) : MC E l yH_mixBlock (cT yH_mixBlock cH_mixBlock 2 none) rm_H_mixBlock [.ref h] [ob h 2 [.ref a1, .ref a2, .ref a3, .ref a4, .int (nI k), .int (nI z)], aI E a1 8 st, aI E a2 64 sc, aI E a3 8 ro] Unit (fun _ => True) (fun _ => none) (fun _ => [ob h 2 [.ref a1, .ref a2, .ref a3, .ref a4, .int (nI k), .int (nI z)], aI E a1 8 (addS st (roF st sc ro) 8), aI E a2 64 sc, aI E a3 8 (roF st sc ro)]) := by
  refine MC.of (cc := cH_mixBlock) (nL := 2) (ret := none) (by decide) rfl cT_in (Nat.le_of_ble_eq_true rfl) (fun g hg hR => ?_)
  show J E 2 g [ob h 2 [.ref a1, .ref a2, .ref a3, .ref a4, .int (nI k), .int (nI z)], aI E a1 8 st, aI E a2 64 sc, aI E a3 8 ro] [(0, .ref h)] 0 0 0 []
  refine j_aload_n hg 0 dH_mixBlock_0 rfl rfl ?_
  refine j_get hg (C := RX2) (T := TX2) (N := 6) inX2 0 rfl rfl 0 (by decide) m64 rfl dH_mixBlock_1 ?_
  refine j_iconst hg (v := 0) dH_mixBlock_4 (by decide) ?_
  refine j_aload_n hg 0 dH_mixBlock_5 rfl rfl ?_
  refine j_get hg (C := RX2) (T := TX2) (N := 6) inX2 0 rfl rfl 2 (by decide) m66 rfl dH_mixBlock_6 ?_
  refine j_iconst hg (v := 0) dH_mixBlock_9 (by decide) ?_
  refine j_bipush hg (v := 8) dH_mixBlock_10 (by decide) ?_
  refine j_copyI hg (ws' := [ob h 2 [.ref a1, .ref a2, .ref a3, .ref a4, .int (nI k), .int (nI z)], aI E a1 8 st, aI E a2 64 sc, aI E a3 8 (va_cpy st ro 0 0 8)]) 1 3 0 0 8 ⟨m276, m141, m140, m6⟩ rfl rfl rfl rfl rfl (by omega) (by omega) (by omega) (by omega) (Nat.le_of_ble_eq_true rfl) (Nat.le_of_ble_eq_true rfl) rfl dH_mixBlock_12 ?_
  refine j_iconst hg (v := 0) dH_mixBlock_15 (by decide) ?_
  refine j_istore_n hg (lv' := [(1, .int 0), (0, .ref h)]) dH_mixBlock_16 rfl (by decide) rfl ?_
  refine j_pick [1, 0] (lv' := [(0, .ref h), (1, .int 0)]) rfl ?_
  have loop : ∀ (zk i : Nat), i + zk = 64 → J E 2 g [ob h 2 [.ref a1, .ref a2, .ref a3, .ref a4, .int (nI k), .int (nI z)], aI E a1 8 st, aI E a2 64 sc, aI E a3 8 (mrs (va_cpy st ro 0 0 8) sc i)] [(0, .ref h), (1, .int (nI i))] 0 0 17 [] := by
    intro zk
    induction zk with
    | zero =>
      intro i  hi
      obtain rfl : 64 = i := by omega
      refine j_iload_n hg 1 dH_mixBlock_17 rfl rfl ?_
      refine j_bipush hg (v := 64) dH_mixBlock_18 (by decide) ?_
      refine j_nge_t hg (tgt := 45) 64 64 rfl rfl (by omega) (by omega) (by omega) dH_mixBlock_20 (by decide) ?_
      refine j_iconst hg (v := 0) dH_mixBlock_45 (by decide) ?_
      refine j_istore_n hg (lv' := [(1, .int 0), (0, .ref h)]) dH_mixBlock_46 rfl (by decide) rfl ?_
      refine j_pick [1, 0] (lv' := [(0, .ref h), (1, .int 0)]) rfl ?_
      have loop2 : ∀ (zk i : Nat), i + zk = 8 → J E 2 g [ob h 2 [.ref a1, .ref a2, .ref a3, .ref a4, .int (nI k), .int (nI z)], aI E a1 8 (addS st (roF st sc ro) i), aI E a2 64 sc, aI E a3 8 (roF st sc ro)] [(0, .ref h), (1, .int (nI i))] 0 0 47 [] := by
        intro zk
        induction zk with
        | zero =>
          intro i  hi
          obtain rfl : 8 = i := by omega
          refine j_iload_n hg 1 dH_mixBlock_47 rfl rfl ?_
          refine j_bipush hg (v := 8) dH_mixBlock_48 (by decide) ?_
          refine j_nge_t hg (tgt := 74) 8 8 rfl rfl (by omega) (by omega) (by omega) dH_mixBlock_50 (by decide) ?_
          exact j_vret hg hR () trivial rfl [0, 1, 2, 3] rfl (by decide) (by decide) (by decide) dH_mixBlock_74
        | succ zk ih =>
          intro i  hi
          refine j_iload_n hg 1 dH_mixBlock_47 rfl rfl ?_
          refine j_bipush hg (v := 8) dH_mixBlock_48 (by decide) ?_
          refine j_nge_f hg (tgt := 74) i 8 rfl rfl (by omega) (by omega) (by omega) dH_mixBlock_50 (by decide) ?_
          refine j_aload_n hg 0 dH_mixBlock_53 rfl rfl ?_
          refine j_get hg (C := RX2) (T := TX2) (N := 6) inX2 0 rfl rfl 0 (by decide) m64 rfl dH_mixBlock_54 ?_
          refine j_iload_n hg 1 dH_mixBlock_57 rfl rfl ?_
          refine j_dup2_11 hg dH_mixBlock_58 rfl rfl ?_
          refine j_iald hg (v := (addS st (roF st sc ro) i) i) 1 i rfl rfl (by omega) (by omega) rfl dH_mixBlock_59 ?_
          refine j_aload_n hg 0 dH_mixBlock_60 rfl rfl ?_
          refine j_get hg (C := RX2) (T := TX2) (N := 6) inX2 0 rfl rfl 2 (by decide) m66 rfl dH_mixBlock_61 ?_
          refine j_iload_n hg 1 dH_mixBlock_64 rfl rfl ?_
          refine j_iald hg (v := (roF st sc ro) i) 3 i rfl rfl (by omega) (by omega) rfl dH_mixBlock_65 ?_
          refine j_iadd hg (v := ((addS st (roF st sc ro) i) i) + ((roF st sc ro) i)) dH_mixBlock_66 rfl ?_
          refine j_iast hg (ws' := [ob h 2 [.ref a1, .ref a2, .ref a3, .ref a4, .int (nI k), .int (nI z)], aI E a1 8 (upd (addS st (roF st sc ro) i) i (((addS st (roF st sc ro) i) i) + ((roF st sc ro) i))), aI E a2 64 sc, aI E a3 8 (roF st sc ro)]) 1 i rfl rfl (by omega) (by omega) rfl dH_mixBlock_67 ?_
          refine j_iinc hg (kq := 1) (v := nI (i + 1)) (lv' := [(1, .int (nI (i + 1))), (0, .ref h)]) dH_mixBlock_68 rfl (nI_add i 1) (by decide) rfl ?_
          refine j_goto hg (tgt := 47) dH_mixBlock_71 (by decide) ?_
          refine j_pick [1, 0] (lv' := [(0, .ref h), (1, .int (nI (i + 1)))]) rfl ?_
          exact ih (i + 1) (by omega)
      exact loop2 (8) 0 (by omega)
    | succ zk ih =>
      intro i  hi
      refine j_iload_n hg 1 dH_mixBlock_17 rfl rfl ?_
      refine j_bipush hg (v := 64) dH_mixBlock_18 (by decide) ?_
      refine j_nge_f hg (tgt := 45) i 64 rfl rfl (by omega) (by omega) (by omega) dH_mixBlock_20 (by decide) ?_
      refine j_aload_n hg 0 dH_mixBlock_23 rfl rfl ?_
      refine j_aload_n hg 0 dH_mixBlock_24 rfl rfl ?_
      refine j_get hg (C := RX2) (T := TX2) (N := 6) inX2 0 rfl rfl 1 (by decide) m65 rfl dH_mixBlock_25 ?_
      refine j_iload_n hg 1 dH_mixBlock_28 rfl rfl ?_
      refine j_iald hg (v := sc i) 2 i rfl rfl (by omega) (by omega) rfl dH_mixBlock_29 ?_
      refine j_gets hg 1 rfl m299 dH_mixBlock_30 ?_
      refine j_iload_n hg 1 dH_mixBlock_33 rfl rfl ?_
      refine j_sti hg (f := tADDED) (v := tADDED i) 1 i rfl rfl (by omega) (by decide) rfl dH_mixBlock_34 ?_
      refine j_iadd hg (v := (sc i) + (tADDED i)) dH_mixBlock_35 rfl ?_
      refine j_callV hg (n := 1) (y := yH_mixRound) (rm := rm_H_mixRound) (Ws := (cT yH_mixRound cH_mixRound 9 none)) (As := [.int ((sc i) + (tADDED i))]) (rest := []) (wr := [aI E a1 8 st, aI E a2 64 sc]) 0 rfl rfl (c_H_mixRound l E h a1 a2 a3 a4 k z (mrs (va_cpy st ro 0 0 8) sc i) ((sc i) + (tADDED i))) (gdV m301 m303 ms17 m4 m304) rfl (by decide +kernel) ⟨by decide, by decide⟩ rfl rfl (Nat.le_of_ble_eq_true rfl) ⟨by decide, by decide⟩ [0, 3] [1, 2] rfl rfl (by decide) (by decide) (by decide) dH_mixBlock_36 (fun _ _ => ?_)
      show J E 2 g [aI E a1 8 st, aI E a2 64 sc, ob h 2 [.ref a1, .ref a2, .ref a3, .ref a4, .int (nI k), .int (nI z)], aI E a3 8 (mr (mrs (va_cpy st ro 0 0 8) sc i) ((sc i) + (tADDED i)))] [(0, .ref h), (1, .int (nI i))] 0 0 39 []
      refine j_iinc hg (kq := 1) (v := nI (i + 1)) (lv' := [(1, .int (nI (i + 1))), (0, .ref h)]) dH_mixBlock_39 rfl (nI_add i 1) (by decide) rfl ?_
      refine j_goto hg (tgt := 17) dH_mixBlock_42 (by decide) ?_
      refine j_sub [2, 0, 1, 3] (ws' := [ob h 2 [.ref a1, .ref a2, .ref a3, .ref a4, .int (nI k), .int (nI z)], aI E a1 8 st, aI E a2 64 sc, aI E a3 8 (mr (mrs (va_cpy st ro 0 0 8) sc i) ((sc i) + (tADDED i)))]) rfl (by decide) ?_
      refine j_pick [1, 0] (lv' := [(0, .ref h), (1, .int (nI (i + 1)))]) rfl ?_
      exact ih (i + 1) (by omega)
  exact loop (64) 0 (by omega)

def rm_H_addByte : Room := { frames := 3, cells := 0, slots := 0, locals := 70 }
set_option maxHeartbeats 1000000 in
set_option maxRecDepth 100000 in
theorem c_H_addByte (l : Launch) (E : Ev) (h a1 a2 a3 a4 : Nat) (u : HS) (v : Int32) (hv : vp_nar .byte v = v) (hk : u.2.2.2.2.1 < 64) : MC E l yH_addByte (cT yH_addByte cH_addByte 2 none) rm_H_addByte [.ref h, .int v] [ob h 2 [.ref a1, .ref a2, .ref a3, .ref a4, .int (nI u.2.2.2.2.1), .int (nI u.2.2.2.2.2)], aI E a1 8 u.1, aI E a2 64 u.2.1, aI E a3 8 u.2.2.1, aB E a4 64 u.2.2.2.1] Unit (fun _ => True) (fun _ => none) (fun _ => [ob h 2 [.ref a1, .ref a2, .ref a3, .ref a4, .int (nI ((abF u v).2.2.2.2.1)), .int (nI ((abF u v).2.2.2.2.2))], aI E a1 8 ((abF u v).1), aI E a2 64 ((abF u v).2.1), aI E a3 8 ((abF u v).2.2.1), aB E a4 64 ((abF u v).2.2.2.1)]) := by
  refine MC.of (cc := cH_addByte) (nL := 2) (ret := none) (by decide) rfl cT_in (Nat.le_of_ble_eq_true rfl) (fun g hg hR => ?_)
  show J E 2 g [ob h 2 [.ref a1, .ref a2, .ref a3, .ref a4, .int (nI u.2.2.2.2.1), .int (nI u.2.2.2.2.2)], aI E a1 8 u.1, aI E a2 64 u.2.1, aI E a3 8 u.2.2.1, aB E a4 64 u.2.2.2.1] [(0, .ref h), (1, .int v)] 0 0 0 []
  refine j_aload_n hg 0 dH_addByte_0 rfl rfl ?_
  refine j_get hg (C := RX2) (T := TX2) (N := 6) inX2 0 rfl rfl 3 (by decide) m67 rfl dH_addByte_1 ?_
  refine j_aload_n hg 0 dH_addByte_4 rfl rfl ?_
  refine j_get hg (C := RX2) (T := TX2) (N := 6) inX2 0 rfl rfl 4 (by decide) m68 rfl dH_addByte_5 ?_
  refine j_iload_n hg 1 dH_addByte_8 rfl rfl ?_
  refine j_bast hg (ws' := [ob h 2 [.ref a1, .ref a2, .ref a3, .ref a4, .int (nI u.2.2.2.2.1), .int (nI u.2.2.2.2.2)], aI E a1 8 u.1, aI E a2 64 u.2.1, aI E a3 8 u.2.2.1, aB E a4 64 (upd u.2.2.2.1 u.2.2.2.2.1 v)]) 4 u.2.2.2.2.1 rfl rfl (by omega) (by omega) hv rfl dH_addByte_9 ?_
  refine j_aload_n hg 0 dH_addByte_10 rfl rfl ?_
  refine j_dup hg dH_addByte_11 rfl ?_
  refine j_get hg (C := RX2) (T := TX2) (N := 6) inX2 0 rfl rfl 4 (by decide) m68 rfl dH_addByte_12 ?_
  refine j_iconst hg (v := 1) dH_addByte_15 (by decide) ?_
  refine j_iadd hg (v := nI (u.2.2.2.2.1 + 1)) dH_addByte_16 (nI_add u.2.2.2.2.1 1) ?_
  refine j_put hg (C := RX2) (T := TX2) (N := 6) (ty := .int) (ws' := [ob h 2 [.ref a1, .ref a2, .ref a3, .ref a4, .int (nI (u.2.2.2.2.1 + 1)), .int (nI u.2.2.2.2.2)], aI E a1 8 u.1, aI E a2 64 u.2.1, aI E a3 8 u.2.2.1, aB E a4 64 (upd u.2.2.2.1 u.2.2.2.2.1 v)]) inX2 tyX2 tyX2_ok nmX2 0 rfl rfl 4 (by decide) m68 rfl (by decide +kernel) rfl rfl (Nat.le_of_ble_eq_true rfl) rfl dH_addByte_17 ?_
  refine j_aload_n hg 0 dH_addByte_20 rfl rfl ?_
  refine j_dup hg dH_addByte_21 rfl ?_
  refine j_get hg (C := RX2) (T := TX2) (N := 6) inX2 0 rfl rfl 5 (by decide) m69 rfl dH_addByte_22 ?_
  refine j_iconst hg (v := 1) dH_addByte_25 (by decide) ?_
  refine j_iadd hg (v := nI (u.2.2.2.2.2 + 1)) dH_addByte_26 (nI_add u.2.2.2.2.2 1) ?_
  refine j_put hg (C := RX2) (T := TX2) (N := 6) (ty := .int) (ws' := [ob h 2 [.ref a1, .ref a2, .ref a3, .ref a4, .int (nI (u.2.2.2.2.1 + 1)), .int (nI (u.2.2.2.2.2 + 1))], aI E a1 8 u.1, aI E a2 64 u.2.1, aI E a3 8 u.2.2.1, aB E a4 64 (upd u.2.2.2.1 u.2.2.2.2.1 v)]) inX2 tyX2 tyX2_ok nmX2 0 rfl rfl 5 (by decide) m69 rfl (by decide +kernel) rfl rfl (Nat.le_of_ble_eq_true rfl) rfl dH_addByte_27 ?_
  refine j_aload_n hg 0 dH_addByte_30 rfl rfl ?_
  refine j_get hg (C := RX2) (T := TX2) (N := 6) inX2 0 rfl rfl 4 (by decide) m68 rfl dH_addByte_31 ?_
  refine j_bipush hg (v := 64) dH_addByte_34 (by decide) ?_
  refine j_nne hg (tgt := 52) (u.2.2.2.2.1 + 1) 64 rfl rfl (by omega) (by omega) dH_addByte_36 (by decide) (fun hc => ?_) (fun hc => ?_)
  · skip
    have e : abF u v = (u.1, u.2.1, u.2.2.1, upd u.2.2.2.1 u.2.2.2.2.1 v, u.2.2.2.2.1 + 1, u.2.2.2.2.2 + 1) := (abF_eq u v).trans (if_neg (by omega))
    rw [e] at hR
    exact j_vret hg hR () trivial rfl [0, 1, 2, 3, 4] rfl (by decide) (by decide) (by decide) dH_addByte_52
  · skip
    have e : abF u v = (addS u.1 (roF u.1 (spF (upd u.2.2.2.1 u.2.2.2.2.1 v) u.2.1) u.2.2.1) 8, spF (upd u.2.2.2.1 u.2.2.2.2.1 v) u.2.1, roF u.1 (spF (upd u.2.2.2.1 u.2.2.2.2.1 v) u.2.1) u.2.2.1, upd u.2.2.2.1 u.2.2.2.2.1 v, 0, u.2.2.2.2.2 + 1) := (abF_eq u v).trans (if_pos (by omega))
    rw [e] at hR
    refine j_aload_n hg 0 dH_addByte_39 rfl rfl ?_
    refine j_iconst hg (v := 0) dH_addByte_40 (by decide) ?_
    refine j_put hg (C := RX2) (T := TX2) (N := 6) (ty := .int) (ws' := [ob h 2 [.ref a1, .ref a2, .ref a3, .ref a4, .int 0, .int (nI (u.2.2.2.2.2 + 1))], aI E a1 8 u.1, aI E a2 64 u.2.1, aI E a3 8 u.2.2.1, aB E a4 64 (upd u.2.2.2.1 u.2.2.2.2.1 v)]) inX2 tyX2 tyX2_ok nmX2 0 rfl rfl 4 (by decide) m68 rfl (by decide +kernel) rfl rfl (Nat.le_of_ble_eq_true rfl) rfl dH_addByte_41 ?_
    refine j_aload_n hg 0 dH_addByte_44 rfl rfl ?_
    refine j_callV hg (n := 0) (y := yH_spreadBlock) (rm := rm_H_spreadBlock) (Ws := (cT yH_spreadBlock cH_spreadBlock 6 none)) (As := []) (rest := []) (wr := [aI E a1 8 u.1, aI E a3 8 u.2.2.1]) 0 rfl rfl (c_H_spreadBlock l E h a1 a2 a3 a4 0 (u.2.2.2.2.2 + 1) (upd u.2.2.2.1 u.2.2.2.2.1 v) u.2.1) (gdV m285 m287 ms15 m4 m288) rfl (by decide +kernel) ⟨by decide, by decide⟩ rfl rfl (Nat.le_of_ble_eq_true rfl) ⟨by decide, by decide⟩ [0, 2, 4] [1, 3] rfl rfl (by decide) (by decide) (by decide) dH_addByte_45 (fun _ _ => ?_)
    show J E 2 g [aI E a1 8 u.1, aI E a3 8 u.2.2.1, ob h 2 [.ref a1, .ref a2, .ref a3, .ref a4, .int 0, .int (nI (u.2.2.2.2.2 + 1))], aI E a2 64 (spF (upd u.2.2.2.1 u.2.2.2.2.1 v) u.2.1), aB E a4 64 (upd u.2.2.2.1 u.2.2.2.2.1 v)] [(0, .ref h), (1, .int v)] 0 0 48 []
    refine j_aload_n hg 0 dH_addByte_48 rfl rfl ?_
    refine j_callV hg (n := 0) (y := yH_mixBlock) (rm := rm_H_mixBlock) (Ws := (cT yH_mixBlock cH_mixBlock 2 none)) (As := []) (rest := []) (wr := [aB E a4 64 (upd u.2.2.2.1 u.2.2.2.2.1 v)]) 0 rfl rfl (c_H_mixBlock l E h a1 a2 a3 a4 0 (u.2.2.2.2.2 + 1) u.1 (spF (upd u.2.2.2.1 u.2.2.2.2.1 v) u.2.1) u.2.2.1) (gdV m295 m297 ms16 m4 m298) rfl (by decide +kernel) ⟨by decide, by decide⟩ rfl rfl (Nat.le_of_ble_eq_true rfl) ⟨by decide, by decide⟩ [2, 0, 3, 1] [4] rfl rfl (by decide) (by decide) (by decide) dH_addByte_49 (fun _ _ => ?_)
    show J E 2 g [aB E a4 64 (upd u.2.2.2.1 u.2.2.2.2.1 v), ob h 2 [.ref a1, .ref a2, .ref a3, .ref a4, .int 0, .int (nI (u.2.2.2.2.2 + 1))], aI E a1 8 (addS u.1 (roF u.1 (spF (upd u.2.2.2.1 u.2.2.2.2.1 v) u.2.1) u.2.2.1) 8), aI E a2 64 (spF (upd u.2.2.2.1 u.2.2.2.2.1 v) u.2.1), aI E a3 8 (roF u.1 (spF (upd u.2.2.2.1 u.2.2.2.2.1 v) u.2.1) u.2.2.1)] [(0, .ref h), (1, .int v)] 0 0 52 []
    exact j_vret hg hR () trivial rfl [1, 2, 3, 4, 0] rfl (by decide) (by decide) (by decide) dH_addByte_52
end
section
/-! SHA-256 of the class: start, add, addMasked, finish. -/
theorem fit_sB {x : Int32} (h : fits .byte (.int x) = true) : sB x = x := by
  have h1 : (-128 : Int32).toInt = -128 := by decide
  have h2 : (127 : Int32).toInt = 127 := by decide
  simp only [fits, Bool.and_eq_true, decide_eq_true_eq, Int32.le_iff_toInt_le, h1, h2] at h
  apply Int32.toInt_inj.mp
  show (x.toInt8.toInt32).toInt = x.toInt
  rw [Int8.toInt_toInt32, Int32.toInt_toInt8]
  exact Int.bmod_eq_of_le (by omega) (by omega)
theorem Byt.nar {f : Nat → Int32} (h : Byt f) (j : Nat) : vp_nar .byte (f j) = f j := by rw [vp_nar_byte]; exact fit_sB (h j)
theorem m56 : ∀ k : Nat, k < 64 → ((56 : Int32) - nI k) &&& 63 = nI ((120 - k) % 64) := by decide
def stF (u : HS) : HS := (va_cpy tFIRST u.1 0 0 8, u.2.1, u.2.2.1, u.2.2.2.1, 0, 0)
noncomputable def addF (u : HS) (row : Nat → Int32) : Nat → HS
  | 0 => u
  | i + 1 => abF (addF u row i) (row i)
theorem addF_lt {u : HS} {row : Nat → Int32} (h : u.2.2.2.2.1 < 64) : ∀ i, (addF u row i).2.2.2.2.1 < 64
  | 0 => h
  | i + 1 => abF_lt (addF_lt h i)
def mskF (fk : Nat → Int32) (mk : Int32) (i : Nat) : Int32 := sB (if i < 32 then fk i ^^^ mk else mk)
noncomputable def zerF (u : HS) : Nat → HS
  | 0 => u
  | i + 1 => abF (zerF u i) 0
theorem zerF_lt {u : HS} (h : u.2.2.2.2.1 < 64) : ∀ i, (zerF u i).2.2.2.2.1 < 64
  | 0 => h
  | i + 1 => abF_lt (zerF_lt h i)
noncomputable def padF (u : HS) : HS := zerF (abF u (-128)) ((120 - (abF u (-128)).2.2.2.2.1) % 64 + 4)
noncomputable def lenF (u : HS) (x : Int32) : HS := abF (abF (abF (abF u (sB (ushr x 24))) (sB (ushr x 16))) (sB (ushr x 8))) (sB (ushr x 0))
noncomputable def finF (u : HS) : HS := lenF (padF u) (nI (u.2.2.2.2.2 * 8))
theorem padF_lt {u : HS} (h : u.2.2.2.2.1 < 64) : (padF u).2.2.2.2.1 < 64 := zerF_lt (abF_lt h) _
theorem finF_lt {u : HS} (h : u.2.2.2.2.1 < 64) : (finF u).2.2.2.2.1 < 64 := abF_lt (abF_lt (abF_lt (abF_lt (padF_lt h))))
def outH (row st : Nat → Int32) : Nat → Nat → Int32
  | 0 => row
  | i + 1 => wh (outH row st i) (4 * i) (st i)

def rm_H_start : Room := { frames := 1, cells := 0, slots := 0, locals := 18 }
set_option maxHeartbeats 1000000 in
set_option maxRecDepth 100000 in
theorem c_H_start (l : Launch) (E : Ev) (h a1 a2 a3 a4 : Nat) (u : HS) : MC E l yH_start (cT yH_start cH_start 1 none) rm_H_start [.ref h] [ob h 2 [.ref a1, .ref a2, .ref a3, .ref a4, .int (nI u.2.2.2.2.1), .int (nI u.2.2.2.2.2)], aI E a1 8 u.1, aI E a2 64 u.2.1, aI E a3 8 u.2.2.1, aB E a4 64 u.2.2.2.1] Unit (fun _ => True) (fun _ => none) (fun _ => [ob h 2 [.ref a1, .ref a2, .ref a3, .ref a4, .int (nI ((stF u).2.2.2.2.1)), .int (nI ((stF u).2.2.2.2.2))], aI E a1 8 ((stF u).1), aI E a2 64 ((stF u).2.1), aI E a3 8 ((stF u).2.2.1), aB E a4 64 ((stF u).2.2.2.1)]) := by
  refine MC.of (cc := cH_start) (nL := 1) (ret := none) (by decide) rfl cT_in (Nat.le_of_ble_eq_true rfl) (fun g hg hR => ?_)
  show J E 1 g [ob h 2 [.ref a1, .ref a2, .ref a3, .ref a4, .int (nI u.2.2.2.2.1), .int (nI u.2.2.2.2.2)], aI E a1 8 u.1, aI E a2 64 u.2.1, aI E a3 8 u.2.2.1, aB E a4 64 u.2.2.2.1] [(0, .ref h)] 0 0 0 []
  refine j_gets hg 0 rfl m274 dH_start_0 ?_
  refine j_iconst hg (v := 0) dH_start_3 (by decide) ?_
  refine j_aload_n hg 0 dH_start_4 rfl rfl ?_
  refine j_get hg (C := RX2) (T := TX2) (N := 6) inX2 0 rfl rfl 0 (by decide) m64 rfl dH_start_5 ?_
  refine j_iconst hg (v := 0) dH_start_8 (by decide) ?_
  refine j_bipush hg (v := 8) dH_start_9 (by decide) ?_
  refine j_copyT hg (ws' := [ob h 2 [.ref a1, .ref a2, .ref a3, .ref a4, .int (nI u.2.2.2.2.1), .int (nI u.2.2.2.2.2)], aI E a1 8 (va_cpy tFIRST u.1 0 0 8), aI E a2 64 u.2.1, aI E a3 8 u.2.2.1, aB E a4 64 u.2.2.2.1]) (f := tFIRST) 0 1 0 0 8 ⟨m276, m141, m140, m6⟩ rfl rfl rfl rfl rfl (by omega) (by omega) (by omega) (by omega) (Nat.le_of_ble_eq_true rfl) (Nat.le_of_ble_eq_true rfl) rfl dH_start_11 ?_
  refine j_aload_n hg 0 dH_start_14 rfl rfl ?_
  refine j_iconst hg (v := 0) dH_start_15 (by decide) ?_
  refine j_put hg (C := RX2) (T := TX2) (N := 6) (ty := .int) (ws' := [ob h 2 [.ref a1, .ref a2, .ref a3, .ref a4, .int 0, .int (nI u.2.2.2.2.2)], aI E a1 8 (va_cpy tFIRST u.1 0 0 8), aI E a2 64 u.2.1, aI E a3 8 u.2.2.1, aB E a4 64 u.2.2.2.1]) inX2 tyX2 tyX2_ok nmX2 0 rfl rfl 4 (by decide) m68 rfl (by decide +kernel) rfl rfl (Nat.le_of_ble_eq_true rfl) rfl dH_start_16 ?_
  refine j_aload_n hg 0 dH_start_19 rfl rfl ?_
  refine j_iconst hg (v := 0) dH_start_20 (by decide) ?_
  refine j_put hg (C := RX2) (T := TX2) (N := 6) (ty := .int) (ws' := [ob h 2 [.ref a1, .ref a2, .ref a3, .ref a4, .int 0, .int 0], aI E a1 8 (va_cpy tFIRST u.1 0 0 8), aI E a2 64 u.2.1, aI E a3 8 u.2.2.1, aB E a4 64 u.2.2.2.1]) inX2 tyX2 tyX2_ok nmX2 0 rfl rfl 5 (by decide) m69 rfl (by decide +kernel) rfl rfl (Nat.le_of_ble_eq_true rfl) rfl dH_start_21 ?_
  exact j_vret hg hR () trivial rfl [0, 1, 2, 3, 4] rfl (by decide) (by decide) (by decide) dH_start_24

def rm_H_add : Room := { frames := 4, cells := 0, slots := 0, locals := 91 }
set_option maxHeartbeats 1000000 in
set_option maxRecDepth 100000 in
theorem c_H_add (l : Launch) (E : Ev) (h a1 a2 a3 a4 : Nat) (u : HS) (rr n m : Nat) (row : Nat → Int32) (hk : u.2.2.2.2.1 < 64) (hb : Byt row) (h1 : m ≤ n) (h2 : n < 2147483648) : MC E l yH_add (cT yH_add cH_add 4 none) rm_H_add [.ref h, .ref rr, .int (nI m)] [ob h 2 [.ref a1, .ref a2, .ref a3, .ref a4, .int (nI u.2.2.2.2.1), .int (nI u.2.2.2.2.2)], aI E a1 8 u.1, aI E a2 64 u.2.1, aI E a3 8 u.2.2.1, aB E a4 64 u.2.2.2.1, aB E rr n row] Unit (fun _ => True) (fun _ => none) (fun _ => [ob h 2 [.ref a1, .ref a2, .ref a3, .ref a4, .int (nI ((addF u row m).2.2.2.2.1)), .int (nI ((addF u row m).2.2.2.2.2))], aI E a1 8 ((addF u row m).1), aI E a2 64 ((addF u row m).2.1), aI E a3 8 ((addF u row m).2.2.1), aB E a4 64 ((addF u row m).2.2.2.1), aB E rr n row]) := by
  refine MC.of (cc := cH_add) (nL := 4) (ret := none) (by decide) rfl cT_in (Nat.le_of_ble_eq_true rfl) (fun g hg hR => ?_)
  show J E 4 g [ob h 2 [.ref a1, .ref a2, .ref a3, .ref a4, .int (nI u.2.2.2.2.1), .int (nI u.2.2.2.2.2)], aI E a1 8 u.1, aI E a2 64 u.2.1, aI E a3 8 u.2.2.1, aB E a4 64 u.2.2.2.1, aB E rr n row] [(0, .ref h), (1, .ref rr), (2, .int (nI m))] 0 0 0 []
  refine j_iconst hg (v := 0) dH_add_0 (by decide) ?_
  refine j_istore_n hg (lv' := [(3, .int 0), (0, .ref h), (1, .ref rr), (2, .int (nI m))]) dH_add_1 rfl (by decide) rfl ?_
  refine j_pick [1, 2, 3, 0] (lv' := [(0, .ref h), (1, .ref rr), (2, .int (nI m)), (3, .int 0)]) rfl ?_
  have loop : ∀ (zk i : Nat), i + zk = m → J E 4 g [ob h 2 [.ref a1, .ref a2, .ref a3, .ref a4, .int (nI ((addF u row i).2.2.2.2.1)), .int (nI ((addF u row i).2.2.2.2.2))], aI E a1 8 ((addF u row i).1), aI E a2 64 ((addF u row i).2.1), aI E a3 8 ((addF u row i).2.2.1), aB E a4 64 ((addF u row i).2.2.2.1), aB E rr n row] [(0, .ref h), (1, .ref rr), (2, .int (nI m)), (3, .int (nI i))] 0 0 2 [] := by
    intro zk
    induction zk with
    | zero =>
      intro i  hi
      obtain rfl : m = i := by omega
      refine j_iload_n hg 3 dH_add_2 rfl rfl ?_
      refine j_iload_n hg 2 dH_add_3 rfl rfl ?_
      refine j_nge_t hg (tgt := 20) m m rfl rfl (by omega) (by omega) (by omega) dH_add_4 (by decide) ?_
      exact j_vret hg hR () trivial rfl [0, 1, 2, 3, 4, 5] rfl (by decide) (by decide) (by decide) dH_add_20
    | succ zk ih =>
      intro i  hi
      refine j_iload_n hg 3 dH_add_2 rfl rfl ?_
      refine j_iload_n hg 2 dH_add_3 rfl rfl ?_
      refine j_nge_f hg (tgt := 20) i m rfl rfl (by omega) (by omega) (by omega) dH_add_4 (by decide) ?_
      refine j_aload_n hg 0 dH_add_7 rfl rfl ?_
      refine j_aload_n hg 1 dH_add_8 rfl rfl ?_
      refine j_iload_n hg 3 dH_add_9 rfl rfl ?_
      refine j_bald hg (v := row i) 5 i rfl rfl (by omega) (by omega) rfl dH_add_10 ?_
      refine j_callV hg (n := 1) (y := yH_addByte) (rm := rm_H_addByte) (Ws := (cT yH_addByte cH_addByte 2 none)) (As := [.int (row i)]) (rest := []) (wr := [aB E rr n row]) 0 rfl rfl (c_H_addByte l E h a1 a2 a3 a4 ((addF u row i)) (row i) (hb.nar i) (addF_lt hk i)) (gdV m281 m283 ms14 m4 m284) rfl (by decide +kernel) ⟨by decide, by decide⟩ rfl rfl (Nat.le_of_ble_eq_true rfl) ⟨by decide, by decide⟩ [0, 1, 2, 3, 4] [5] rfl rfl (by decide) (by decide) (by decide) dH_add_11 (fun _ _ => ?_)
      show J E 4 g [aB E rr n row, ob h 2 [.ref a1, .ref a2, .ref a3, .ref a4, .int (nI ((abF ((addF u row i)) (row i)).2.2.2.2.1)), .int (nI ((abF ((addF u row i)) (row i)).2.2.2.2.2))], aI E a1 8 ((abF ((addF u row i)) (row i)).1), aI E a2 64 ((abF ((addF u row i)) (row i)).2.1), aI E a3 8 ((abF ((addF u row i)) (row i)).2.2.1), aB E a4 64 ((abF ((addF u row i)) (row i)).2.2.2.1)] [(0, .ref h), (1, .ref rr), (2, .int (nI m)), (3, .int (nI i))] 0 0 14 []
      refine j_iinc hg (kq := 3) (v := nI (i + 1)) (lv' := [(3, .int (nI (i + 1))), (0, .ref h), (1, .ref rr), (2, .int (nI m))]) dH_add_14 rfl (nI_add i 1) (by decide) rfl ?_
      refine j_goto hg (tgt := 2) dH_add_17 (by decide) ?_
      refine j_sub [1, 2, 3, 4, 5, 0] (ws' := [ob h 2 [.ref a1, .ref a2, .ref a3, .ref a4, .int (nI ((abF ((addF u row i)) (row i)).2.2.2.2.1)), .int (nI ((abF ((addF u row i)) (row i)).2.2.2.2.2))], aI E a1 8 ((abF ((addF u row i)) (row i)).1), aI E a2 64 ((abF ((addF u row i)) (row i)).2.1), aI E a3 8 ((abF ((addF u row i)) (row i)).2.2.1), aB E a4 64 ((abF ((addF u row i)) (row i)).2.2.2.1), aB E rr n row]) rfl (by decide) ?_
      refine j_pick [1, 2, 3, 0] (lv' := [(0, .ref h), (1, .ref rr), (2, .int (nI m)), (3, .int (nI (i + 1)))]) rfl ?_
      exact ih (i + 1) (by omega)
  exact loop (m) 0 (by omega)

def rm_H_addMasked : Room := { frames := 4, cells := 0, slots := 0, locals := 91 }
set_option maxHeartbeats 1000000 in
set_option maxRecDepth 100000 in
theorem c_H_addMasked (l : Launch) (E : Ev) (h a1 a2 a3 a4 : Nat) (u : HS) (rr : Nat) (fk : Nat → Int32) (mk : Int32) (hk : u.2.2.2.2.1 < 64) : MC E l yH_addMasked (cT yH_addMasked cH_addMasked 4 none) rm_H_addMasked [.ref h, .ref rr, .int mk] [ob h 2 [.ref a1, .ref a2, .ref a3, .ref a4, .int (nI u.2.2.2.2.1), .int (nI u.2.2.2.2.2)], aI E a1 8 u.1, aI E a2 64 u.2.1, aI E a3 8 u.2.2.1, aB E a4 64 u.2.2.2.1, aB E rr 32 fk] Unit (fun _ => True) (fun _ => none) (fun _ => [ob h 2 [.ref a1, .ref a2, .ref a3, .ref a4, .int (nI ((addF u (mskF fk mk) 64).2.2.2.2.1)), .int (nI ((addF u (mskF fk mk) 64).2.2.2.2.2))], aI E a1 8 ((addF u (mskF fk mk) 64).1), aI E a2 64 ((addF u (mskF fk mk) 64).2.1), aI E a3 8 ((addF u (mskF fk mk) 64).2.2.1), aB E a4 64 ((addF u (mskF fk mk) 64).2.2.2.1), aB E rr 32 fk]) := by
  refine MC.of (cc := cH_addMasked) (nL := 4) (ret := none) (by decide) rfl cT_in (Nat.le_of_ble_eq_true rfl) (fun g hg hR => ?_)
  show J E 4 g [ob h 2 [.ref a1, .ref a2, .ref a3, .ref a4, .int (nI u.2.2.2.2.1), .int (nI u.2.2.2.2.2)], aI E a1 8 u.1, aI E a2 64 u.2.1, aI E a3 8 u.2.2.1, aB E a4 64 u.2.2.2.1, aB E rr 32 fk] [(0, .ref h), (1, .ref rr), (2, .int mk)] 0 0 0 []
  refine j_iconst hg (v := 0) dH_addMasked_0 (by decide) ?_
  refine j_istore_n hg (lv' := [(3, .int 0), (0, .ref h), (1, .ref rr), (2, .int mk)]) dH_addMasked_1 rfl (by decide) rfl ?_
  refine j_pick [1, 2, 3, 0] (lv' := [(0, .ref h), (1, .ref rr), (2, .int mk), (3, .int 0)]) rfl ?_
  have loop : ∀ (zk i : Nat), i + zk = 64 → J E 4 g [ob h 2 [.ref a1, .ref a2, .ref a3, .ref a4, .int (nI ((addF u (mskF fk mk) i).2.2.2.2.1)), .int (nI ((addF u (mskF fk mk) i).2.2.2.2.2))], aI E a1 8 ((addF u (mskF fk mk) i).1), aI E a2 64 ((addF u (mskF fk mk) i).2.1), aI E a3 8 ((addF u (mskF fk mk) i).2.2.1), aB E a4 64 ((addF u (mskF fk mk) i).2.2.2.1), aB E rr 32 fk] [(0, .ref h), (1, .ref rr), (2, .int mk), (3, .int (nI i))] 0 0 2 [] := by
    intro zk
    induction zk with
    | zero =>
      intro i  hi
      obtain rfl : 64 = i := by omega
      refine j_iload_n hg 3 dH_addMasked_2 rfl rfl ?_
      refine j_bipush hg (v := 64) dH_addMasked_3 (by decide) ?_
      refine j_nge_t hg (tgt := 34) 64 64 rfl rfl (by omega) (by omega) (by omega) dH_addMasked_5 (by decide) ?_
      exact j_vret hg hR () trivial rfl [0, 1, 2, 3, 4, 5] rfl (by decide) (by decide) (by decide) dH_addMasked_34
    | succ zk ih =>
      intro i  hi
      refine j_iload_n hg 3 dH_addMasked_2 rfl rfl ?_
      refine j_bipush hg (v := 64) dH_addMasked_3 (by decide) ?_
      refine j_nge_f hg (tgt := 34) i 64 rfl rfl (by omega) (by omega) (by omega) dH_addMasked_5 (by decide) ?_
      refine j_aload_n hg 0 dH_addMasked_8 rfl rfl ?_
      refine j_iload_n hg 3 dH_addMasked_9 rfl rfl ?_
      refine j_aload_n hg 1 dH_addMasked_10 rfl rfl ?_
      refine j_alenB hg (v := 32) 5 rfl rfl dH_addMasked_11 ?_
      refine j_nge hg (tgt := 23) i 32 rfl rfl (by omega) (by omega) dH_addMasked_12 (by decide) (fun hc => ?_) (fun hc => ?_)
      · skip
        refine j_iload_n hg 2 dH_addMasked_23 rfl rfl ?_
        refine j_i2b hg (v := sB mk) dH_addMasked_24 rfl ?_
        refine j_topi (show sB mk = mskF fk mk i from by unfold mskF; rw [if_neg (by omega)]) ?_
        refine j_callV hg (n := 1) (y := yH_addByte) (rm := rm_H_addByte) (Ws := (cT yH_addByte cH_addByte 2 none)) (As := [.int (mskF fk mk i)]) (rest := []) (wr := [aB E rr 32 fk]) 0 rfl rfl (c_H_addByte l E h a1 a2 a3 a4 ((addF u (mskF fk mk) i)) (mskF fk mk i) (sB_nar _) (addF_lt hk i)) (gdV m281 m283 ms14 m4 m284) rfl (by decide +kernel) ⟨by decide, by decide⟩ rfl rfl (Nat.le_of_ble_eq_true rfl) ⟨by decide, by decide⟩ [0, 1, 2, 3, 4] [5] rfl rfl (by decide) (by decide) (by decide) dH_addMasked_25 (fun _ _ => ?_)
        show J E 4 g [aB E rr 32 fk, ob h 2 [.ref a1, .ref a2, .ref a3, .ref a4, .int (nI ((abF ((addF u (mskF fk mk) i)) (mskF fk mk i)).2.2.2.2.1)), .int (nI ((abF ((addF u (mskF fk mk) i)) (mskF fk mk i)).2.2.2.2.2))], aI E a1 8 ((abF ((addF u (mskF fk mk) i)) (mskF fk mk i)).1), aI E a2 64 ((abF ((addF u (mskF fk mk) i)) (mskF fk mk i)).2.1), aI E a3 8 ((abF ((addF u (mskF fk mk) i)) (mskF fk mk i)).2.2.1), aB E a4 64 ((abF ((addF u (mskF fk mk) i)) (mskF fk mk i)).2.2.2.1)] [(0, .ref h), (1, .ref rr), (2, .int mk), (3, .int (nI i))] 0 0 28 []
        refine j_iinc hg (kq := 3) (v := nI (i + 1)) (lv' := [(3, .int (nI (i + 1))), (0, .ref h), (1, .ref rr), (2, .int mk)]) dH_addMasked_28 rfl (nI_add i 1) (by decide) rfl ?_
        refine j_goto hg (tgt := 2) dH_addMasked_31 (by decide) ?_
        refine j_sub [1, 2, 3, 4, 5, 0] (ws' := [ob h 2 [.ref a1, .ref a2, .ref a3, .ref a4, .int (nI ((abF ((addF u (mskF fk mk) i)) (mskF fk mk i)).2.2.2.2.1)), .int (nI ((abF ((addF u (mskF fk mk) i)) (mskF fk mk i)).2.2.2.2.2))], aI E a1 8 ((abF ((addF u (mskF fk mk) i)) (mskF fk mk i)).1), aI E a2 64 ((abF ((addF u (mskF fk mk) i)) (mskF fk mk i)).2.1), aI E a3 8 ((abF ((addF u (mskF fk mk) i)) (mskF fk mk i)).2.2.1), aB E a4 64 ((abF ((addF u (mskF fk mk) i)) (mskF fk mk i)).2.2.2.1), aB E rr 32 fk]) rfl (by decide) ?_
        refine j_pick [1, 2, 3, 0] (lv' := [(0, .ref h), (1, .ref rr), (2, .int mk), (3, .int (nI (i + 1)))]) rfl ?_
        exact ih (i + 1) (by omega)
      · skip
        refine j_aload_n hg 1 dH_addMasked_15 rfl rfl ?_
        refine j_iload_n hg 3 dH_addMasked_16 rfl rfl ?_
        refine j_bald hg (v := fk i) 5 i rfl rfl (by omega) (by omega) rfl dH_addMasked_17 ?_
        refine j_iload_n hg 2 dH_addMasked_18 rfl rfl ?_
        refine j_ixor hg (v := (fk i) ^^^ mk) dH_addMasked_19 rfl ?_
        refine j_goto hg (tgt := 24) dH_addMasked_20 (by decide) ?_
        refine j_i2b hg (v := sB ((fk i) ^^^ mk)) dH_addMasked_24 rfl ?_
        refine j_topi (show sB (fk i ^^^ mk) = mskF fk mk i from by unfold mskF; rw [if_pos (by omega)]) ?_
        refine j_callV hg (n := 1) (y := yH_addByte) (rm := rm_H_addByte) (Ws := (cT yH_addByte cH_addByte 2 none)) (As := [.int (mskF fk mk i)]) (rest := []) (wr := [aB E rr 32 fk]) 0 rfl rfl (c_H_addByte l E h a1 a2 a3 a4 ((addF u (mskF fk mk) i)) (mskF fk mk i) (sB_nar _) (addF_lt hk i)) (gdV m281 m283 ms14 m4 m284) rfl (by decide +kernel) ⟨by decide, by decide⟩ rfl rfl (Nat.le_of_ble_eq_true rfl) ⟨by decide, by decide⟩ [0, 1, 2, 3, 4] [5] rfl rfl (by decide) (by decide) (by decide) dH_addMasked_25 (fun _ _ => ?_)
        show J E 4 g [aB E rr 32 fk, ob h 2 [.ref a1, .ref a2, .ref a3, .ref a4, .int (nI ((abF ((addF u (mskF fk mk) i)) (mskF fk mk i)).2.2.2.2.1)), .int (nI ((abF ((addF u (mskF fk mk) i)) (mskF fk mk i)).2.2.2.2.2))], aI E a1 8 ((abF ((addF u (mskF fk mk) i)) (mskF fk mk i)).1), aI E a2 64 ((abF ((addF u (mskF fk mk) i)) (mskF fk mk i)).2.1), aI E a3 8 ((abF ((addF u (mskF fk mk) i)) (mskF fk mk i)).2.2.1), aB E a4 64 ((abF ((addF u (mskF fk mk) i)) (mskF fk mk i)).2.2.2.1)] [(0, .ref h), (1, .ref rr), (2, .int mk), (3, .int (nI i))] 0 0 28 []
        refine j_iinc hg (kq := 3) (v := nI (i + 1)) (lv' := [(3, .int (nI (i + 1))), (0, .ref h), (1, .ref rr), (2, .int mk)]) dH_addMasked_28 rfl (nI_add i 1) (by decide) rfl ?_
        refine j_goto hg (tgt := 2) dH_addMasked_31 (by decide) ?_
        refine j_sub [1, 2, 3, 4, 5, 0] (ws' := [ob h 2 [.ref a1, .ref a2, .ref a3, .ref a4, .int (nI ((abF ((addF u (mskF fk mk) i)) (mskF fk mk i)).2.2.2.2.1)), .int (nI ((abF ((addF u (mskF fk mk) i)) (mskF fk mk i)).2.2.2.2.2))], aI E a1 8 ((abF ((addF u (mskF fk mk) i)) (mskF fk mk i)).1), aI E a2 64 ((abF ((addF u (mskF fk mk) i)) (mskF fk mk i)).2.1), aI E a3 8 ((abF ((addF u (mskF fk mk) i)) (mskF fk mk i)).2.2.1), aB E a4 64 ((abF ((addF u (mskF fk mk) i)) (mskF fk mk i)).2.2.2.1), aB E rr 32 fk]) rfl (by decide) ?_
        refine j_pick [1, 2, 3, 0] (lv' := [(0, .ref h), (1, .ref rr), (2, .int mk), (3, .int (nI (i + 1)))]) rfl ?_
        exact ih (i + 1) (by omega)
  exact loop (64) 0 (by omega)

def rm_H_finish : Room := { frames := 4, cells := 0, slots := 0, locals := 91 }
set_option maxHeartbeats 1000000 in
set_option maxRecDepth 100000 in
theorem c_H_finish (l : Launch) (E : Ev) (h a1 a2 a3 a4 : Nat) (u : HS) (rr n : Nat) (row : Nat → Int32) (hk : u.2.2.2.2.1 < 64) (h1 : 32 ≤ n) (h2 : n < 2147483648) : MC E l yH_finish (cT yH_finish cH_finish 5 none) rm_H_finish [.ref h, .ref rr] [ob h 2 [.ref a1, .ref a2, .ref a3, .ref a4, .int (nI u.2.2.2.2.1), .int (nI u.2.2.2.2.2)], aI E a1 8 u.1, aI E a2 64 u.2.1, aI E a3 8 u.2.2.1, aB E a4 64 u.2.2.2.1, aB E rr n row] Unit (fun _ => True) (fun _ => none) (fun _ => [ob h 2 [.ref a1, .ref a2, .ref a3, .ref a4, .int (nI ((finF u).2.2.2.2.1)), .int (nI ((finF u).2.2.2.2.2))], aI E a1 8 ((finF u).1), aI E a2 64 ((finF u).2.1), aI E a3 8 ((finF u).2.2.1), aB E a4 64 ((finF u).2.2.2.1), aB E rr n (outH row (finF u).1 8)]) := by
  refine MC.of (cc := cH_finish) (nL := 5) (ret := none) (by decide) rfl cT_in (Nat.le_of_ble_eq_true rfl) (fun g hg hR => ?_)
  show J E 5 g [ob h 2 [.ref a1, .ref a2, .ref a3, .ref a4, .int (nI u.2.2.2.2.1), .int (nI u.2.2.2.2.2)], aI E a1 8 u.1, aI E a2 64 u.2.1, aI E a3 8 u.2.2.1, aB E a4 64 u.2.2.2.1, aB E rr n row] [(0, .ref h), (1, .ref rr)] 0 0 0 []
  refine j_aload_n hg 0 dH_finish_0 rfl rfl ?_
  refine j_get hg (C := RX2) (T := TX2) (N := 6) inX2 0 rfl rfl 5 (by decide) m69 rfl dH_finish_1 ?_
  refine j_bipush hg (v := 8) dH_finish_4 (by decide) ?_
  refine j_imul hg (v := nI (u.2.2.2.2.2 * 8)) dH_finish_6 (pk_mul u.2.2.2.2.2 8) ?_
  refine j_istore_n hg (lv' := [(2, .int (nI (u.2.2.2.2.2 * 8))), (0, .ref h), (1, .ref rr)]) dH_finish_7 rfl (by decide) rfl ?_
  refine j_aload_n hg 1 dH_finish_8 rfl rfl ?_
  refine j_bipush hg (v := -128) dH_finish_9 (by decide) ?_
  refine j_callV hg (n := 1) (y := yH_addByte) (rm := rm_H_addByte) (Ws := (cT yH_addByte cH_addByte 2 none)) (As := [.int (-128)]) (rest := []) (wr := [aB E rr n row]) 0 rfl rfl (c_H_addByte l E h a1 a2 a3 a4 u (-128) (by decide) hk) (gdV m281 m283 ms14 m4 m284) rfl (by decide +kernel) ⟨by decide, by decide⟩ rfl rfl (Nat.le_of_ble_eq_true rfl) ⟨by decide, by decide⟩ [0, 1, 2, 3, 4] [5] rfl rfl (by decide) (by decide) (by decide) dH_finish_11 (fun _ _ => ?_)
  show J E 5 g [aB E rr n row, ob h 2 [.ref a1, .ref a2, .ref a3, .ref a4, .int (nI ((abF u (-128)).2.2.2.2.1)), .int (nI ((abF u (-128)).2.2.2.2.2))], aI E a1 8 ((abF u (-128)).1), aI E a2 64 ((abF u (-128)).2.1), aI E a3 8 ((abF u (-128)).2.2.1), aB E a4 64 ((abF u (-128)).2.2.2.1)] [(2, .int (nI (u.2.2.2.2.2 * 8))), (0, .ref h), (1, .ref rr)] 0 0 14 []
  refine j_bipush hg (v := 56) dH_finish_14 (by decide) ?_
  refine j_aload_n hg 1 dH_finish_16 rfl rfl ?_
  refine j_get hg (C := RX2) (T := TX2) (N := 6) inX2 1 rfl rfl 4 (by decide) m68 rfl dH_finish_17 ?_
  refine j_isub hg (v := 56 - (nI ((abF u (-128)).2.2.2.2.1))) dH_finish_20 rfl ?_
  refine j_bipush hg (v := 63) dH_finish_21 (by decide) ?_
  refine j_iand hg (v := (56 - (nI ((abF u (-128)).2.2.2.2.1))) &&& 63) dH_finish_23 rfl ?_
  refine j_topi (m56 _ (abF_lt hk)) ?_
  refine j_istore_n hg (lv' := [(3, .int (nI ((120 - (abF u (-128)).2.2.2.2.1) % 64))), (2, .int (nI (u.2.2.2.2.2 * 8))), (0, .ref h), (1, .ref rr)]) dH_finish_24 rfl (by decide) rfl ?_
  refine j_iconst hg (v := 0) dH_finish_25 (by decide) ?_
  refine j_istore hg (lv' := [(4, .int 0), (3, .int (nI ((120 - (abF u (-128)).2.2.2.2.1) % 64))), (2, .int (nI (u.2.2.2.2.2 * 8))), (0, .ref h), (1, .ref rr)]) dH_finish_26 (by decide) rfl ?_
  refine j_sub [1, 2, 3, 4, 5, 0] (ws' := [ob h 2 [.ref a1, .ref a2, .ref a3, .ref a4, .int (nI ((abF u (-128)).2.2.2.2.1)), .int (nI ((abF u (-128)).2.2.2.2.2))], aI E a1 8 ((abF u (-128)).1), aI E a2 64 ((abF u (-128)).2.1), aI E a3 8 ((abF u (-128)).2.2.1), aB E a4 64 ((abF u (-128)).2.2.2.1), aB E rr n row]) rfl (by decide) ?_
  refine j_pick [3, 4, 2, 1, 0] (lv' := [(0, .ref h), (1, .ref rr), (2, .int (nI (u.2.2.2.2.2 * 8))), (3, .int (nI ((120 - (abF u (-128)).2.2.2.2.1) % 64))), (4, .int 0)]) rfl ?_
  have loop : ∀ (zk i : Nat), i + zk = (120 - (abF u (-128)).2.2.2.2.1) % 64 + 4 → J E 5 g [ob h 2 [.ref a1, .ref a2, .ref a3, .ref a4, .int (nI ((zerF (abF u (-128)) i).2.2.2.2.1)), .int (nI ((zerF (abF u (-128)) i).2.2.2.2.2))], aI E a1 8 ((zerF (abF u (-128)) i).1), aI E a2 64 ((zerF (abF u (-128)) i).2.1), aI E a3 8 ((zerF (abF u (-128)) i).2.2.1), aB E a4 64 ((zerF (abF u (-128)) i).2.2.2.1), aB E rr n row] [(0, .ref h), (1, .ref rr), (2, .int (nI (u.2.2.2.2.2 * 8))), (3, .int (nI ((120 - (abF u (-128)).2.2.2.2.1) % 64))), (4, .int (nI i))] 0 0 28 [] := by
    intro zk
    induction zk with
    | zero =>
      intro i  hi
      obtain rfl : (120 - (abF u (-128)).2.2.2.2.1) % 64 + 4 = i := by omega
      refine j_iload hg 4 dH_finish_28 rfl ?_
      refine j_iload_n hg 3 dH_finish_30 rfl rfl ?_
      refine j_iconst hg (v := 4) dH_finish_31 (by decide) ?_
      refine j_iadd hg (v := nI ((120 - (abF u (-128)).2.2.2.2.1) % 64 + 4)) dH_finish_32 (nI_add ((120 - (abF u (-128)).2.2.2.2.1) % 64) 4) ?_
      refine j_nge_t hg (tgt := 47) ((120 - (abF u (-128)).2.2.2.2.1) % 64 + 4) ((120 - (abF u (-128)).2.2.2.2.1) % 64 + 4) rfl rfl (by omega) (by omega) (by omega) dH_finish_33 (by decide) ?_
      show J E 5 g [ob h 2 [.ref a1, .ref a2, .ref a3, .ref a4, .int (nI ((padF u).2.2.2.2.1)), .int (nI ((padF u).2.2.2.2.2))], aI E a1 8 ((padF u).1), aI E a2 64 ((padF u).2.1), aI E a3 8 ((padF u).2.2.1), aB E a4 64 ((padF u).2.2.2.1), aB E rr n row] [(0, .ref h), (1, .ref rr), (2, .int (nI (u.2.2.2.2.2 * 8))), (3, .int (nI ((120 - (abF u (-128)).2.2.2.2.1) % 64))), (4, .int (nI ((120 - (abF u (-128)).2.2.2.2.1) % 64 + 4)))] 0 0 47 []
      refine j_bipush hg (v := 24) dH_finish_47 (by decide) ?_
      refine j_istore hg (lv' := [(4, .int 24), (0, .ref h), (1, .ref rr), (2, .int (nI (u.2.2.2.2.2 * 8))), (3, .int (nI ((120 - (abF u (-128)).2.2.2.2.1) % 64)))]) dH_finish_49 (by decide) rfl ?_
      refine j_iload hg 0 dH_finish_51 rfl ?_
      refine j_zlt_f hg (tgt := 71) 24 rfl (by omega) (by omega) dH_finish_53 (by decide) ?_
      refine j_aload_n hg 1 dH_finish_56 rfl rfl ?_
      refine j_iload_n hg 3 dH_finish_57 rfl rfl ?_
      refine j_iload hg 0 dH_finish_58 rfl ?_
      refine j_iushr hg (v := ushr (nI (u.2.2.2.2.2 * 8)) 24) dH_finish_60 rfl ?_
      refine j_i2b hg (v := sB (ushr (nI (u.2.2.2.2.2 * 8)) 24)) dH_finish_61 rfl ?_
      refine j_callV hg (n := 1) (y := yH_addByte) (rm := rm_H_addByte) (Ws := (cT yH_addByte cH_addByte 2 none)) (As := [.int (sB (ushr (nI (u.2.2.2.2.2 * 8)) 24))]) (rest := []) (wr := [aB E rr n row]) 0 rfl rfl (c_H_addByte l E h a1 a2 a3 a4 ((padF u)) (sB (ushr (nI (u.2.2.2.2.2 * 8)) 24)) (sB_nar _) (padF_lt hk)) (gdV m281 m283 ms14 m4 m284) rfl (by decide +kernel) ⟨by decide, by decide⟩ rfl rfl (Nat.le_of_ble_eq_true rfl) ⟨by decide, by decide⟩ [0, 1, 2, 3, 4] [5] rfl rfl (by decide) (by decide) (by decide) dH_finish_62 (fun _ _ => ?_)
      show J E 5 g [aB E rr n row, ob h 2 [.ref a1, .ref a2, .ref a3, .ref a4, .int (nI ((abF ((padF u)) (sB (ushr (nI (u.2.2.2.2.2 * 8)) 24))).2.2.2.2.1)), .int (nI ((abF ((padF u)) (sB (ushr (nI (u.2.2.2.2.2 * 8)) 24))).2.2.2.2.2))], aI E a1 8 ((abF ((padF u)) (sB (ushr (nI (u.2.2.2.2.2 * 8)) 24))).1), aI E a2 64 ((abF ((padF u)) (sB (ushr (nI (u.2.2.2.2.2 * 8)) 24))).2.1), aI E a3 8 ((abF ((padF u)) (sB (ushr (nI (u.2.2.2.2.2 * 8)) 24))).2.2.1), aB E a4 64 ((abF ((padF u)) (sB (ushr (nI (u.2.2.2.2.2 * 8)) 24))).2.2.2.1)] [(4, .int 24), (0, .ref h), (1, .ref rr), (2, .int (nI (u.2.2.2.2.2 * 8))), (3, .int (nI ((120 - (abF u (-128)).2.2.2.2.1) % 64)))] 0 0 65 []
      refine j_iinc hg (kq := 0) (v := 16) (lv' := [(4, .int 16), (0, .ref h), (1, .ref rr), (2, .int (nI (u.2.2.2.2.2 * 8))), (3, .int (nI ((120 - (abF u (-128)).2.2.2.2.1) % 64)))]) dH_finish_65 rfl (by decide) (by decide) rfl ?_
      refine j_goto hg (tgt := 51) dH_finish_68 (by decide) ?_
      refine j_iload hg 0 dH_finish_51 rfl ?_
      refine j_zlt_f hg (tgt := 71) 16 rfl (by omega) (by omega) dH_finish_53 (by decide) ?_
      refine j_aload_n hg 1 dH_finish_56 rfl rfl ?_
      refine j_iload_n hg 3 dH_finish_57 rfl rfl ?_
      refine j_iload hg 0 dH_finish_58 rfl ?_
      refine j_iushr hg (v := ushr (nI (u.2.2.2.2.2 * 8)) 16) dH_finish_60 rfl ?_
      refine j_i2b hg (v := sB (ushr (nI (u.2.2.2.2.2 * 8)) 16)) dH_finish_61 rfl ?_
      refine j_callV hg (n := 1) (y := yH_addByte) (rm := rm_H_addByte) (Ws := (cT yH_addByte cH_addByte 2 none)) (As := [.int (sB (ushr (nI (u.2.2.2.2.2 * 8)) 16))]) (rest := []) (wr := [aB E rr n row]) 0 rfl rfl (c_H_addByte l E h a1 a2 a3 a4 ((abF ((padF u)) (sB (ushr (nI (u.2.2.2.2.2 * 8)) 24)))) (sB (ushr (nI (u.2.2.2.2.2 * 8)) 16)) (sB_nar _) (abF_lt (padF_lt hk))) (gdV m281 m283 ms14 m4 m284) rfl (by decide +kernel) ⟨by decide, by decide⟩ rfl rfl (Nat.le_of_ble_eq_true rfl) ⟨by decide, by decide⟩ [1, 2, 3, 4, 5] [0] rfl rfl (by decide) (by decide) (by decide) dH_finish_62 (fun _ _ => ?_)
      show J E 5 g [aB E rr n row, ob h 2 [.ref a1, .ref a2, .ref a3, .ref a4, .int (nI ((abF ((abF ((padF u)) (sB (ushr (nI (u.2.2.2.2.2 * 8)) 24)))) (sB (ushr (nI (u.2.2.2.2.2 * 8)) 16))).2.2.2.2.1)), .int (nI ((abF ((abF ((padF u)) (sB (ushr (nI (u.2.2.2.2.2 * 8)) 24)))) (sB (ushr (nI (u.2.2.2.2.2 * 8)) 16))).2.2.2.2.2))], aI E a1 8 ((abF ((abF ((padF u)) (sB (ushr (nI (u.2.2.2.2.2 * 8)) 24)))) (sB (ushr (nI (u.2.2.2.2.2 * 8)) 16))).1), aI E a2 64 ((abF ((abF ((padF u)) (sB (ushr (nI (u.2.2.2.2.2 * 8)) 24)))) (sB (ushr (nI (u.2.2.2.2.2 * 8)) 16))).2.1), aI E a3 8 ((abF ((abF ((padF u)) (sB (ushr (nI (u.2.2.2.2.2 * 8)) 24)))) (sB (ushr (nI (u.2.2.2.2.2 * 8)) 16))).2.2.1), aB E a4 64 ((abF ((abF ((padF u)) (sB (ushr (nI (u.2.2.2.2.2 * 8)) 24)))) (sB (ushr (nI (u.2.2.2.2.2 * 8)) 16))).2.2.2.1)] [(4, .int 16), (0, .ref h), (1, .ref rr), (2, .int (nI (u.2.2.2.2.2 * 8))), (3, .int (nI ((120 - (abF u (-128)).2.2.2.2.1) % 64)))] 0 0 65 []
      refine j_iinc hg (kq := 0) (v := 8) (lv' := [(4, .int 8), (0, .ref h), (1, .ref rr), (2, .int (nI (u.2.2.2.2.2 * 8))), (3, .int (nI ((120 - (abF u (-128)).2.2.2.2.1) % 64)))]) dH_finish_65 rfl (by decide) (by decide) rfl ?_
      refine j_goto hg (tgt := 51) dH_finish_68 (by decide) ?_
      refine j_iload hg 0 dH_finish_51 rfl ?_
      refine j_zlt_f hg (tgt := 71) 8 rfl (by omega) (by omega) dH_finish_53 (by decide) ?_
      refine j_aload_n hg 1 dH_finish_56 rfl rfl ?_
      refine j_iload_n hg 3 dH_finish_57 rfl rfl ?_
      refine j_iload hg 0 dH_finish_58 rfl ?_
      refine j_iushr hg (v := ushr (nI (u.2.2.2.2.2 * 8)) 8) dH_finish_60 rfl ?_
      refine j_i2b hg (v := sB (ushr (nI (u.2.2.2.2.2 * 8)) 8)) dH_finish_61 rfl ?_
      refine j_callV hg (n := 1) (y := yH_addByte) (rm := rm_H_addByte) (Ws := (cT yH_addByte cH_addByte 2 none)) (As := [.int (sB (ushr (nI (u.2.2.2.2.2 * 8)) 8))]) (rest := []) (wr := [aB E rr n row]) 0 rfl rfl (c_H_addByte l E h a1 a2 a3 a4 ((abF ((abF ((padF u)) (sB (ushr (nI (u.2.2.2.2.2 * 8)) 24)))) (sB (ushr (nI (u.2.2.2.2.2 * 8)) 16)))) (sB (ushr (nI (u.2.2.2.2.2 * 8)) 8)) (sB_nar _) (abF_lt (abF_lt (padF_lt hk)))) (gdV m281 m283 ms14 m4 m284) rfl (by decide +kernel) ⟨by decide, by decide⟩ rfl rfl (Nat.le_of_ble_eq_true rfl) ⟨by decide, by decide⟩ [1, 2, 3, 4, 5] [0] rfl rfl (by decide) (by decide) (by decide) dH_finish_62 (fun _ _ => ?_)
      show J E 5 g [aB E rr n row, ob h 2 [.ref a1, .ref a2, .ref a3, .ref a4, .int (nI ((abF ((abF ((abF ((padF u)) (sB (ushr (nI (u.2.2.2.2.2 * 8)) 24)))) (sB (ushr (nI (u.2.2.2.2.2 * 8)) 16)))) (sB (ushr (nI (u.2.2.2.2.2 * 8)) 8))).2.2.2.2.1)), .int (nI ((abF ((abF ((abF ((padF u)) (sB (ushr (nI (u.2.2.2.2.2 * 8)) 24)))) (sB (ushr (nI (u.2.2.2.2.2 * 8)) 16)))) (sB (ushr (nI (u.2.2.2.2.2 * 8)) 8))).2.2.2.2.2))], aI E a1 8 ((abF ((abF ((abF ((padF u)) (sB (ushr (nI (u.2.2.2.2.2 * 8)) 24)))) (sB (ushr (nI (u.2.2.2.2.2 * 8)) 16)))) (sB (ushr (nI (u.2.2.2.2.2 * 8)) 8))).1), aI E a2 64 ((abF ((abF ((abF ((padF u)) (sB (ushr (nI (u.2.2.2.2.2 * 8)) 24)))) (sB (ushr (nI (u.2.2.2.2.2 * 8)) 16)))) (sB (ushr (nI (u.2.2.2.2.2 * 8)) 8))).2.1), aI E a3 8 ((abF ((abF ((abF ((padF u)) (sB (ushr (nI (u.2.2.2.2.2 * 8)) 24)))) (sB (ushr (nI (u.2.2.2.2.2 * 8)) 16)))) (sB (ushr (nI (u.2.2.2.2.2 * 8)) 8))).2.2.1), aB E a4 64 ((abF ((abF ((abF ((padF u)) (sB (ushr (nI (u.2.2.2.2.2 * 8)) 24)))) (sB (ushr (nI (u.2.2.2.2.2 * 8)) 16)))) (sB (ushr (nI (u.2.2.2.2.2 * 8)) 8))).2.2.2.1)] [(4, .int 8), (0, .ref h), (1, .ref rr), (2, .int (nI (u.2.2.2.2.2 * 8))), (3, .int (nI ((120 - (abF u (-128)).2.2.2.2.1) % 64)))] 0 0 65 []
      refine j_iinc hg (kq := 0) (v := 0) (lv' := [(4, .int 0), (0, .ref h), (1, .ref rr), (2, .int (nI (u.2.2.2.2.2 * 8))), (3, .int (nI ((120 - (abF u (-128)).2.2.2.2.1) % 64)))]) dH_finish_65 rfl (by decide) (by decide) rfl ?_
      refine j_goto hg (tgt := 51) dH_finish_68 (by decide) ?_
      refine j_iload hg 0 dH_finish_51 rfl ?_
      refine j_zlt_f hg (tgt := 71) 0 rfl (by omega) (by omega) dH_finish_53 (by decide) ?_
      refine j_aload_n hg 1 dH_finish_56 rfl rfl ?_
      refine j_iload_n hg 3 dH_finish_57 rfl rfl ?_
      refine j_iload hg 0 dH_finish_58 rfl ?_
      refine j_iushr hg (v := ushr (nI (u.2.2.2.2.2 * 8)) 0) dH_finish_60 rfl ?_
      refine j_i2b hg (v := sB (ushr (nI (u.2.2.2.2.2 * 8)) 0)) dH_finish_61 rfl ?_
      refine j_callV hg (n := 1) (y := yH_addByte) (rm := rm_H_addByte) (Ws := (cT yH_addByte cH_addByte 2 none)) (As := [.int (sB (ushr (nI (u.2.2.2.2.2 * 8)) 0))]) (rest := []) (wr := [aB E rr n row]) 0 rfl rfl (c_H_addByte l E h a1 a2 a3 a4 ((abF ((abF ((abF ((padF u)) (sB (ushr (nI (u.2.2.2.2.2 * 8)) 24)))) (sB (ushr (nI (u.2.2.2.2.2 * 8)) 16)))) (sB (ushr (nI (u.2.2.2.2.2 * 8)) 8)))) (sB (ushr (nI (u.2.2.2.2.2 * 8)) 0)) (sB_nar _) (abF_lt (abF_lt (abF_lt (padF_lt hk))))) (gdV m281 m283 ms14 m4 m284) rfl (by decide +kernel) ⟨by decide, by decide⟩ rfl rfl (Nat.le_of_ble_eq_true rfl) ⟨by decide, by decide⟩ [1, 2, 3, 4, 5] [0] rfl rfl (by decide) (by decide) (by decide) dH_finish_62 (fun _ _ => ?_)
      show J E 5 g [aB E rr n row, ob h 2 [.ref a1, .ref a2, .ref a3, .ref a4, .int (nI ((abF ((abF ((abF ((abF ((padF u)) (sB (ushr (nI (u.2.2.2.2.2 * 8)) 24)))) (sB (ushr (nI (u.2.2.2.2.2 * 8)) 16)))) (sB (ushr (nI (u.2.2.2.2.2 * 8)) 8)))) (sB (ushr (nI (u.2.2.2.2.2 * 8)) 0))).2.2.2.2.1)), .int (nI ((abF ((abF ((abF ((abF ((padF u)) (sB (ushr (nI (u.2.2.2.2.2 * 8)) 24)))) (sB (ushr (nI (u.2.2.2.2.2 * 8)) 16)))) (sB (ushr (nI (u.2.2.2.2.2 * 8)) 8)))) (sB (ushr (nI (u.2.2.2.2.2 * 8)) 0))).2.2.2.2.2))], aI E a1 8 ((abF ((abF ((abF ((abF ((padF u)) (sB (ushr (nI (u.2.2.2.2.2 * 8)) 24)))) (sB (ushr (nI (u.2.2.2.2.2 * 8)) 16)))) (sB (ushr (nI (u.2.2.2.2.2 * 8)) 8)))) (sB (ushr (nI (u.2.2.2.2.2 * 8)) 0))).1), aI E a2 64 ((abF ((abF ((abF ((abF ((padF u)) (sB (ushr (nI (u.2.2.2.2.2 * 8)) 24)))) (sB (ushr (nI (u.2.2.2.2.2 * 8)) 16)))) (sB (ushr (nI (u.2.2.2.2.2 * 8)) 8)))) (sB (ushr (nI (u.2.2.2.2.2 * 8)) 0))).2.1), aI E a3 8 ((abF ((abF ((abF ((abF ((padF u)) (sB (ushr (nI (u.2.2.2.2.2 * 8)) 24)))) (sB (ushr (nI (u.2.2.2.2.2 * 8)) 16)))) (sB (ushr (nI (u.2.2.2.2.2 * 8)) 8)))) (sB (ushr (nI (u.2.2.2.2.2 * 8)) 0))).2.2.1), aB E a4 64 ((abF ((abF ((abF ((abF ((padF u)) (sB (ushr (nI (u.2.2.2.2.2 * 8)) 24)))) (sB (ushr (nI (u.2.2.2.2.2 * 8)) 16)))) (sB (ushr (nI (u.2.2.2.2.2 * 8)) 8)))) (sB (ushr (nI (u.2.2.2.2.2 * 8)) 0))).2.2.2.1)] [(4, .int 0), (0, .ref h), (1, .ref rr), (2, .int (nI (u.2.2.2.2.2 * 8))), (3, .int (nI ((120 - (abF u (-128)).2.2.2.2.1) % 64)))] 0 0 65 []
      refine j_iinc hg (kq := 0) (v := -8) (lv' := [(4, .int (-8)), (0, .ref h), (1, .ref rr), (2, .int (nI (u.2.2.2.2.2 * 8))), (3, .int (nI ((120 - (abF u (-128)).2.2.2.2.1) % 64)))]) dH_finish_65 rfl (by decide) (by decide) rfl ?_
      refine j_goto hg (tgt := 51) dH_finish_68 (by decide) ?_
      refine j_iload hg 0 dH_finish_51 rfl ?_
      refine j_if_lt hg (tgt := 71) dH_finish_53 (by decide) (fun _ => ?_) (fun h => absurd (by decide) h)
      refine j_sub [1, 2, 3, 4, 5, 0] (ws' := [ob h 2 [.ref a1, .ref a2, .ref a3, .ref a4, .int (nI ((abF ((abF ((abF ((abF ((padF u)) (sB (ushr (nI (u.2.2.2.2.2 * 8)) 24)))) (sB (ushr (nI (u.2.2.2.2.2 * 8)) 16)))) (sB (ushr (nI (u.2.2.2.2.2 * 8)) 8)))) (sB (ushr (nI (u.2.2.2.2.2 * 8)) 0))).2.2.2.2.1)), .int (nI ((abF ((abF ((abF ((abF ((padF u)) (sB (ushr (nI (u.2.2.2.2.2 * 8)) 24)))) (sB (ushr (nI (u.2.2.2.2.2 * 8)) 16)))) (sB (ushr (nI (u.2.2.2.2.2 * 8)) 8)))) (sB (ushr (nI (u.2.2.2.2.2 * 8)) 0))).2.2.2.2.2))], aI E a1 8 ((abF ((abF ((abF ((abF ((padF u)) (sB (ushr (nI (u.2.2.2.2.2 * 8)) 24)))) (sB (ushr (nI (u.2.2.2.2.2 * 8)) 16)))) (sB (ushr (nI (u.2.2.2.2.2 * 8)) 8)))) (sB (ushr (nI (u.2.2.2.2.2 * 8)) 0))).1), aI E a2 64 ((abF ((abF ((abF ((abF ((padF u)) (sB (ushr (nI (u.2.2.2.2.2 * 8)) 24)))) (sB (ushr (nI (u.2.2.2.2.2 * 8)) 16)))) (sB (ushr (nI (u.2.2.2.2.2 * 8)) 8)))) (sB (ushr (nI (u.2.2.2.2.2 * 8)) 0))).2.1), aI E a3 8 ((abF ((abF ((abF ((abF ((padF u)) (sB (ushr (nI (u.2.2.2.2.2 * 8)) 24)))) (sB (ushr (nI (u.2.2.2.2.2 * 8)) 16)))) (sB (ushr (nI (u.2.2.2.2.2 * 8)) 8)))) (sB (ushr (nI (u.2.2.2.2.2 * 8)) 0))).2.2.1), aB E a4 64 ((abF ((abF ((abF ((abF ((padF u)) (sB (ushr (nI (u.2.2.2.2.2 * 8)) 24)))) (sB (ushr (nI (u.2.2.2.2.2 * 8)) 16)))) (sB (ushr (nI (u.2.2.2.2.2 * 8)) 8)))) (sB (ushr (nI (u.2.2.2.2.2 * 8)) 0))).2.2.2.1), aB E rr n row]) rfl (by decide) ?_
      show J E 5 g [ob h 2 [.ref a1, .ref a2, .ref a3, .ref a4, .int (nI ((finF u).2.2.2.2.1)), .int (nI ((finF u).2.2.2.2.2))], aI E a1 8 ((finF u).1), aI E a2 64 ((finF u).2.1), aI E a3 8 ((finF u).2.2.1), aB E a4 64 ((finF u).2.2.2.1), aB E rr n row] [(4, .int (-8)), (0, .ref h), (1, .ref rr), (2, .int (nI (u.2.2.2.2.2 * 8))), (3, .int (nI ((120 - (abF u (-128)).2.2.2.2.1) % 64)))] 0 0 71 []
      refine j_iconst hg (v := 0) dH_finish_71 (by decide) ?_
      refine j_istore hg (lv' := [(4, .int 0), (0, .ref h), (1, .ref rr), (2, .int (nI (u.2.2.2.2.2 * 8))), (3, .int (nI ((120 - (abF u (-128)).2.2.2.2.1) % 64)))]) dH_finish_72 (by decide) rfl ?_
      refine j_pick [1, 2, 0] (lv' := [(0, .ref h), (1, .ref rr), (4, .int 0)]) rfl ?_
      have loop2 : ∀ (zk i : Nat), i + zk = 8 → J E 5 g [ob h 2 [.ref a1, .ref a2, .ref a3, .ref a4, .int (nI ((finF u).2.2.2.2.1)), .int (nI ((finF u).2.2.2.2.2))], aI E a1 8 ((finF u).1), aI E a2 64 ((finF u).2.1), aI E a3 8 ((finF u).2.2.1), aB E a4 64 ((finF u).2.2.2.1), aB E rr n (outH row (finF u).1 i)] [(0, .ref h), (1, .ref rr), (4, .int (nI i))] 0 0 74 [] := by
        intro zk
        induction zk with
        | zero =>
          intro i  hi
          obtain rfl : 8 = i := by omega
          refine j_iload hg 2 dH_finish_74 rfl ?_
          refine j_bipush hg (v := 8) dH_finish_76 (by decide) ?_
          refine j_nge_t hg (tgt := 102) 8 8 rfl rfl (by omega) (by omega) (by omega) dH_finish_78 (by decide) ?_
          exact j_vret hg hR () trivial rfl [0, 1, 2, 3, 4, 5] rfl (by decide) (by decide) (by decide) dH_finish_102
        | succ zk ih =>
          intro i  hi
          refine j_iload hg 2 dH_finish_74 rfl ?_
          refine j_bipush hg (v := 8) dH_finish_76 (by decide) ?_
          refine j_nge_f hg (tgt := 102) i 8 rfl rfl (by omega) (by omega) (by omega) dH_finish_78 (by decide) ?_
          refine j_aload_n hg 1 dH_finish_81 rfl rfl ?_
          refine j_iconst hg (v := 4) dH_finish_82 (by decide) ?_
          refine j_iload hg 2 dH_finish_83 rfl ?_
          refine j_imul hg (v := nI (4 * i)) dH_finish_85 (pk_mul 4 i) ?_
          refine j_aload_n hg 0 dH_finish_86 rfl rfl ?_
          refine j_get hg (C := RX2) (T := TX2) (N := 6) inX2 0 rfl rfl 0 (by decide) m64 rfl dH_finish_87 ?_
          refine j_iload hg 2 dH_finish_90 rfl ?_
          refine j_iald hg (v := ((finF u).1) i) 1 i rfl rfl (by omega) (by omega) rfl dH_finish_92 ?_
          refine j_callSN hg (n := 3) (y := yS_writeHighestFirst) (rm := rm_S_writeHighestFirst) (Ws := (cT yS_writeHighestFirst cS_writeHighestFirst 3 none)) (As := [.ref rr, .int (nI (4 * i)), .int (((finF u).1) i)]) (rest := []) (wr := [ob h 2 [.ref a1, .ref a2, .ref a3, .ref a4, .int (nI ((finF u).2.2.2.2.1)), .int (nI ((finF u).2.2.2.2.2))], aI E a1 8 ((finF u).1), aI E a2 64 ((finF u).2.1), aI E a3 8 ((finF u).2.2.1), aB E a4 64 ((finF u).2.2.2.1)]) (host := RX3) (c_S_writeHighestFirst l E rr n (outH row (finF u).1 i) (4 * i) (((finF u).1) i) (by omega) (by omega)) (gdT m126) rfl m1 (by decide +kernel) m125 (by decide +kernel) ⟨by decide, by decide⟩ rfl rfl (Nat.le_of_ble_eq_true rfl) ⟨by decide, by decide⟩ [5] [0, 1, 2, 3, 4] rfl rfl (by decide) (by decide) (by decide) dH_finish_93 (fun _ _ => ?_)
          show J E 5 g [ob h 2 [.ref a1, .ref a2, .ref a3, .ref a4, .int (nI ((finF u).2.2.2.2.1)), .int (nI ((finF u).2.2.2.2.2))], aI E a1 8 ((finF u).1), aI E a2 64 ((finF u).2.1), aI E a3 8 ((finF u).2.2.1), aB E a4 64 ((finF u).2.2.2.1), aB E rr n (wh (outH row (finF u).1 i) (4 * i) (((finF u).1) i))] [(0, .ref h), (1, .ref rr), (4, .int (nI i))] 0 0 96 []
          refine j_iinc hg (kq := 2) (v := nI (i + 1)) (lv' := [(4, .int (nI (i + 1))), (0, .ref h), (1, .ref rr)]) dH_finish_96 rfl (nI_add i 1) (by decide) rfl ?_
          refine j_goto hg (tgt := 74) dH_finish_99 (by decide) ?_
          refine j_pick [1, 2, 0] (lv' := [(0, .ref h), (1, .ref rr), (4, .int (nI (i + 1)))]) rfl ?_
          exact ih (i + 1) (by omega)
      exact loop2 (8) 0 (by omega)
    | succ zk ih =>
      intro i  hi
      refine j_iload hg 4 dH_finish_28 rfl ?_
      refine j_iload_n hg 3 dH_finish_30 rfl rfl ?_
      refine j_iconst hg (v := 4) dH_finish_31 (by decide) ?_
      refine j_iadd hg (v := nI ((120 - (abF u (-128)).2.2.2.2.1) % 64 + 4)) dH_finish_32 (nI_add ((120 - (abF u (-128)).2.2.2.2.1) % 64) 4) ?_
      refine j_nge_f hg (tgt := 47) i ((120 - (abF u (-128)).2.2.2.2.1) % 64 + 4) rfl rfl (by omega) (by omega) (by omega) dH_finish_33 (by decide) ?_
      refine j_aload_n hg 0 dH_finish_36 rfl rfl ?_
      refine j_iconst hg (v := 0) dH_finish_37 (by decide) ?_
      refine j_callV hg (n := 1) (y := yH_addByte) (rm := rm_H_addByte) (Ws := (cT yH_addByte cH_addByte 2 none)) (As := [.int 0]) (rest := []) (wr := [aB E rr n row]) 0 rfl rfl (c_H_addByte l E h a1 a2 a3 a4 ((zerF (abF u (-128)) i)) 0 (by decide) (zerF_lt (abF_lt hk) i)) (gdV m281 m283 ms14 m4 m284) rfl (by decide +kernel) ⟨by decide, by decide⟩ rfl rfl (Nat.le_of_ble_eq_true rfl) ⟨by decide, by decide⟩ [0, 1, 2, 3, 4] [5] rfl rfl (by decide) (by decide) (by decide) dH_finish_38 (fun _ _ => ?_)
      show J E 5 g [aB E rr n row, ob h 2 [.ref a1, .ref a2, .ref a3, .ref a4, .int (nI ((abF ((zerF (abF u (-128)) i)) 0).2.2.2.2.1)), .int (nI ((abF ((zerF (abF u (-128)) i)) 0).2.2.2.2.2))], aI E a1 8 ((abF ((zerF (abF u (-128)) i)) 0).1), aI E a2 64 ((abF ((zerF (abF u (-128)) i)) 0).2.1), aI E a3 8 ((abF ((zerF (abF u (-128)) i)) 0).2.2.1), aB E a4 64 ((abF ((zerF (abF u (-128)) i)) 0).2.2.2.1)] [(0, .ref h), (1, .ref rr), (2, .int (nI (u.2.2.2.2.2 * 8))), (3, .int (nI ((120 - (abF u (-128)).2.2.2.2.1) % 64))), (4, .int (nI i))] 0 0 41 []
      refine j_iinc hg (kq := 4) (v := nI (i + 1)) (lv' := [(4, .int (nI (i + 1))), (0, .ref h), (1, .ref rr), (2, .int (nI (u.2.2.2.2.2 * 8))), (3, .int (nI ((120 - (abF u (-128)).2.2.2.2.1) % 64)))]) dH_finish_41 rfl (nI_add i 1) (by decide) rfl ?_
      refine j_goto hg (tgt := 28) dH_finish_44 (by decide) ?_
      refine j_sub [1, 2, 3, 4, 5, 0] (ws' := [ob h 2 [.ref a1, .ref a2, .ref a3, .ref a4, .int (nI ((abF ((zerF (abF u (-128)) i)) 0).2.2.2.2.1)), .int (nI ((abF ((zerF (abF u (-128)) i)) 0).2.2.2.2.2))], aI E a1 8 ((abF ((zerF (abF u (-128)) i)) 0).1), aI E a2 64 ((abF ((zerF (abF u (-128)) i)) 0).2.1), aI E a3 8 ((abF ((zerF (abF u (-128)) i)) 0).2.2.1), aB E a4 64 ((abF ((zerF (abF u (-128)) i)) 0).2.2.2.1), aB E rr n row]) rfl (by decide) ?_
      refine j_pick [1, 2, 3, 4, 0] (lv' := [(0, .ref h), (1, .ref rr), (2, .int (nI (u.2.2.2.2.2 * 8))), (3, .int (nI ((120 - (abF u (-128)).2.2.2.2.1) % 64))), (4, .int (nI (i + 1)))]) rfl ?_
      exact ih (i + 1) (by omega)
  exact loop ((120 - (abF u (-128)).2.2.2.2.1) % 64 + 4) 0 (by omega)
end
section
/-! Poly1305 of the class. -/
theorem nI_sba (a b c : Nat) (h : b ≤ a + c) : nI a - nI b + nI c = nI (a + c - b) := by
  rw [← pk_sub h, ← nI_add, Int32.sub_eq_add_neg, Int32.sub_eq_add_neg, Int32.add_assoc, Int32.add_comm (-nI b), Int32.add_assoc]
theorem nmin {a b : Nat} (ha : a < 2147483648) (hb : b < 2147483648) : (if nI b < nI a then nI b else nI a) = nI (min a b) := by
  by_cases h : b < a
  · rw [if_pos ((nI_ltI hb ha).mpr h), Nat.min_eq_right (Nat.le_of_lt h)]
  · rw [if_neg (fun z => h ((nI_ltI hb ha).mp z)), Nat.min_eq_left (Nat.not_lt.mp h)]
theorem u263 : ∀ i : Nat, i < 5 → ushr (nI (26 * i)) 3 = nI (26 * i / 8) := by decide
def filB (f : Nat → Int32) (v : Int32) : Nat → Nat → Int32
  | 0 => f
  | i + 1 => upd (filB f v i) i v
def bpart (b : Nat → Int32) (i : Nat) : Int64 := lushr ((rl b (26 * i / 8)).toInt64 &&& 4294967295) (nI (26 * i) &&& 7) &&& 67108863
def clamp3 (b : Nat → Int32) : Nat → Nat → Int32
  | 0 => b
  | i + 1 => upd (clamp3 b i) (3 + 4 * i) (sB (clamp3 b i (3 + 4 * i) &&& 15))
def clamp4 (b : Nat → Int32) : Nat → Nat → Int32
  | 0 => b
  | i + 1 => upd (clamp4 b i) (4 + 4 * i) (sB (clamp4 b i (4 + 4 * i) &&& (-4)))
def clampF (b : Nat → Int32) : Nat → Int32 := clamp4 (clamp3 b 4) 3
def parts5 (b : Nat → Int32) (f : Nat → Int64) : Nat → Nat → Int64
  | 0 => f
  | i + 1 => vp_updL (parts5 b f i) i (bpart b i)
def zeros5 (f : Nat → Int64) : Nat → Nat → Int64
  | 0 => f
  | i + 1 => vp_updL (zeros5 f i) i 0
def last4 (k f : Nat → Int32) : Nat → Nat → Int32
  | 0 => f
  | i + 1 => upd (last4 k f i) i (rl k (16 + 4 * i))
def addp (b : Nat → Int32) (t : Nat → Int64) : Nat → Nat → Int64
  | 0 => t
  | i + 1 => vp_updL (addp b t i) i (addp b t i i + bpart b i)
def mulS (t r : Nat → Int64) (i : Nat) : Nat → Int64
  | 0 => 0
  | j + 1 => mulS t r i j + t j * r (i - j)
def mulW (t r : Nat → Int64) (i : Nat) : Nat → Int64
  | 0 => 0
  | j + 1 => mulW t r i j + t (i + 1 + j) * r (i + 5 - (i + 1 + j))
def mulP (t r p : Nat → Int64) : Nat → Nat → Int64
  | 0 => p
  | i + 1 => vp_updL (mulP t r p i) i (mulS t r i (i + 1) + 5 * mulW t r i (4 - i))
def carS (t : Nat → Int64) : Nat → Int64 × (Nat → Int64)
  | 0 => (0, t)
  | i + 1 => (lushr ((carS t i).2 i + (carS t i).1) 26, vp_updL (carS t i).2 i (((carS t i).2 i + (carS t i).1) &&& 67108863))
def car (t : Nat → Int64) : Nat → Int64 := vp_updL (carS t 5).2 0 ((carS t 5).2 0 + 5 * (carS t 5).1)
def tpO (t : Nat → Int64) : Nat → Int64
  | 0 => 5
  | i + 1 => lushr (t i + tpO t i) 26
def tpP (t p : Nat → Int64) : Nat → Nat → Int64
  | 0 => p
  | i + 1 => vp_updL (tpP t p i) i ((t i + tpO t i) &&& 67108863)
def tpT (t p : Nat → Int64) : Nat → Int64 := if lg_cmp (tpO t 5) 0 = 0 then t else va_cpy (tpP t p 5) t 0 0 5
def mulT (t r p : Nat → Int64) : Nat → Int64 := car (car (va_cpy (mulP t r p 5) t 0 0 5))
/-- total, product, block -/
abbrev TPB : Type := (Nat → Int64) × (Nat → Int64) × (Nat → Int32)
def blkF (b row : Nat → Int32) (fr sz one : Nat) : Nat → Int32 := upd (va_cpy row (filB b 0 17) fr 0 sz) one 1
def abk0 (r : Nat → Int64) (x : TPB) (row : Nat → Int32) (fr sz one : Nat) : TPB :=
  (mulT (addp (blkF x.2.2 row fr sz one) x.1 5) r x.2.1, mulP (addp (blkF x.2.2 row fr sz one) x.1 5) r x.2.1 5, blkF x.2.2 row fr sz one)
noncomputable def abkF : (Nat → Int64) → TPB → (Nat → Int32) → Nat → Nat → Nat → TPB := Classical.choose (⟨abk0, rfl⟩ : ∃ F : (Nat → Int64) → TPB → (Nat → Int32) → Nat → Nat → Nat → TPB, F = abk0)
theorem abkF_eq (r : Nat → Int64) (x : TPB) (row : Nat → Int32) (fr sz one : Nat) : abkF r x row fr sz one = abk0 r x row fr sz one := by
  have h : abkF = abk0 := Classical.choose_spec (⟨abk0, rfl⟩ : ∃ F : (Nat → Int64) → TPB → (Nat → Int32) → Nat → Nat → Nat → TPB, F = abk0)
  rw [h]
noncomputable def paddF (r : Nat → Int64) (x : TPB) (row : Nat → Int32) (fr m : Nat) : Nat → TPB
  | 0 => x
  | i + 1 => abkF r (paddF r x row fr m i) row (fr + 16 * i) (min 16 (m - 16 * i)) (min 16 (m - 16 * i))
noncomputable def ppadF (r : Nat → Int64) (x : TPB) (row : Nat → Int32) (fr m : Nat) : Nat → TPB
  | 0 => x
  | i + 1 => abkF r (ppadF r x row fr m i) row (fr + 16 * i) (min 16 (m - 16 * i)) 16
def words4 (t w : Nat → Int64) : Nat → Int64 := vp_updL (vp_updL (vp_updL (vp_updL w 0 (t 0 ||| lshl (t 1) 26)) 1 (lushr (t 1) 6 ||| lshl (t 2) 20)) 2 (lushr (t 2) 12 ||| lshl (t 3) 14)) 3 (lushr (t 3) 18 ||| lshl (t 4) 8)
def foS (w : Nat → Int64) (la row : Nat → Int32) (at_ : Nat) : Nat → Int64 × (Nat → Int32)
  | 0 => (0, row)
  | i + 1 => (lushr ((foS w la row at_ i).1 + ((w i &&& 4294967295) + ((la i).toInt64 &&& 4294967295))) 32, wl (foS w la row at_ i).2 (at_ + 4 * i) ((foS w la row at_ i).1 + ((w i &&& 4294967295) + ((la i).toInt64 &&& 4294967295))).toInt32)
def finT (t p : Nat → Int64) : Nat → Int64 := tpT (car t) p

def rm_A_fill : Room := { frames := 0, cells := 0, slots := 0, locals := 0 }
set_option maxHeartbeats 1000000 in
set_option maxRecDepth 100000 in
theorem c_A_fill (l : Launch) (E : Ev) (a n : Nat) (f : Nat → Int32) (v : Int32) (hv : vp_nar .byte v = v) (h2 : n < 2147483648) : MC E l yA_fill (cT yA_fill cA_fill 4 none) rm_A_fill [.ref a, .int v] [aB E a n f] Unit (fun _ => True) (fun _ => none) (fun _ => [aB E a n (filB f v n)]) := by
  refine MC.of (cc := cA_fill) (nL := 4) (ret := none) (by decide) rfl cT_in (Nat.le_of_ble_eq_true rfl) (fun g hg hR => ?_)
  show J E 4 g [aB E a n f] [(0, .ref a), (1, .int v)] 0 0 0 []
  refine j_iconst hg (v := 0) dA_fill_0 (by decide) ?_
  refine j_istore_n hg (lv' := [(2, .int 0), (0, .ref a), (1, .int v)]) dA_fill_1 rfl (by decide) rfl ?_
  refine j_aload_n hg 1 dA_fill_2 rfl rfl ?_
  refine j_alenB hg (v := nI n) 0 rfl rfl dA_fill_3 ?_
  refine j_istore_n hg (lv' := [(3, .int (nI n)), (2, .int 0), (0, .ref a), (1, .int v)]) dA_fill_4 rfl (by decide) rfl ?_
  refine j_pick [2, 3, 1, 0] (lv' := [(0, .ref a), (1, .int v), (2, .int 0), (3, .int (nI n))]) rfl ?_
  have loop : ∀ (zk i : Nat), i + zk = n → J E 4 g [aB E a n (filB f v i)] [(0, .ref a), (1, .int v), (2, .int (nI i)), (3, .int (nI n))] 0 0 5 [] := by
    intro zk
    induction zk with
    | zero =>
      intro i  hi
      obtain rfl : n = i := by omega
      refine j_iload_n hg 2 dA_fill_5 rfl rfl ?_
      refine j_iload_n hg 3 dA_fill_6 rfl rfl ?_
      refine j_nge_t hg (tgt := 20) n n rfl rfl (by omega) (by omega) (by omega) dA_fill_7 (by decide) ?_
      exact j_vret hg hR () trivial rfl [0] rfl (by decide) (by decide) (by decide) dA_fill_20
    | succ zk ih =>
      intro i  hi
      refine j_iload_n hg 2 dA_fill_5 rfl rfl ?_
      refine j_iload_n hg 3 dA_fill_6 rfl rfl ?_
      refine j_nge_f hg (tgt := 20) i n rfl rfl (by omega) (by omega) (by omega) dA_fill_7 (by decide) ?_
      refine j_aload_n hg 0 dA_fill_10 rfl rfl ?_
      refine j_iload_n hg 2 dA_fill_11 rfl rfl ?_
      refine j_iload_n hg 1 dA_fill_12 rfl rfl ?_
      refine j_bast hg (ws' := [aB E a n (upd (filB f v i) i v)]) 0 i rfl rfl (by omega) (by omega) hv rfl dA_fill_13 ?_
      refine j_iinc hg (kq := 2) (v := nI (i + 1)) (lv' := [(2, .int (nI (i + 1))), (0, .ref a), (1, .int v), (3, .int (nI n))]) dA_fill_14 rfl (nI_add i 1) (by decide) rfl ?_
      refine j_goto hg (tgt := 5) dA_fill_17 (by decide) ?_
      refine j_pick [1, 2, 0, 3] (lv' := [(0, .ref a), (1, .int v), (2, .int (nI (i + 1))), (3, .int (nI n))]) rfl ?_
      exact ih (i + 1) (by omega)
  exact loop (n) 0 (by omega)

def rm_P_carry : Room := { frames := 0, cells := 0, slots := 0, locals := 0 }
set_option maxHeartbeats 1000000 in
set_option maxRecDepth 100000 in
theorem c_P_carry (l : Launch) (E : Ev) (h a1 a2 a3 a4 a5 a6 : Nat) (t : Nat → Int64) : MC E l yP_carry (cT yP_carry cP_carry 6 none) rm_P_carry [.ref h] [ob h 1 [.ref a1, .ref a2, .ref a3, .ref a4, .ref a5, .ref a6], aL E a2 5 t] Unit (fun _ => True) (fun _ => none) (fun _ => [ob h 1 [.ref a1, .ref a2, .ref a3, .ref a4, .ref a5, .ref a6], aL E a2 5 (car t)]) := by
  refine MC.of (cc := cP_carry) (nL := 6) (ret := none) (by decide) rfl cT_in (Nat.le_of_ble_eq_true rfl) (fun g hg hR => ?_)
  show J E 6 g [ob h 1 [.ref a1, .ref a2, .ref a3, .ref a4, .ref a5, .ref a6], aL E a2 5 t] [(0, .ref h)] 0 0 0 []
  refine j_lconst hg (v := 0) dP_carry_0 (by decide) ?_
  refine j_lstore_n hg (lv' := [(1, .long 0), (0, .ref h)]) dP_carry_1 rfl (by decide) rfl ?_
  refine j_iconst hg (v := 0) dP_carry_2 (by decide) ?_
  refine j_istore_n hg (lv' := [(3, .int 0), (1, .long 0), (0, .ref h)]) dP_carry_3 rfl (by decide) rfl ?_
  refine j_pick [2, 1, 0] (lv' := [(0, .ref h), (1, .long 0), (3, .int 0)]) rfl ?_
  have loop : ∀ (zk i : Nat), i + zk = 5 → J E 6 g [ob h 1 [.ref a1, .ref a2, .ref a3, .ref a4, .ref a5, .ref a6], aL E a2 5 ((carS t i).2)] [(0, .ref h), (1, .long ((carS t i).1)), (3, .int (nI i))] 0 0 4 [] := by
    intro zk
    induction zk with
    | zero =>
      intro i  hi
      obtain rfl : 5 = i := by omega
      refine j_iload_n hg 2 dP_carry_4 rfl rfl ?_
      refine j_iconst hg (v := 5) dP_carry_5 (by decide) ?_
      refine j_nge_t hg (tgt := 43) 5 5 rfl rfl (by omega) (by omega) (by omega) dP_carry_6 (by decide) ?_
      refine j_aload_n hg 0 dP_carry_43 rfl rfl ?_
      refine j_get hg (C := RX1) (T := TX1) (N := 6) inX1 0 rfl rfl 1 (by decide) m39 rfl dP_carry_44 ?_
      refine j_iconst hg (v := 0) dP_carry_47 (by decide) ?_
      refine j_dup2_11 hg dP_carry_48 rfl rfl ?_
      refine j_lald hg (v := ((carS t 5).2) 0) 1 0 rfl rfl (by omega) (by omega) rfl dP_carry_49 ?_
      refine j_ldc2 hg (v := 5) m226 dP_carry_50 ?_
      refine j_lload_n hg 1 dP_carry_53 rfl rfl ?_
      refine j_lmul hg (v := 5 * ((carS t 5).1)) dP_carry_54 rfl ?_
      refine j_ladd hg (v := (((carS t 5).2) 0) + (5 * ((carS t 5).1))) dP_carry_55 rfl ?_
      refine j_last hg (ws' := [ob h 1 [.ref a1, .ref a2, .ref a3, .ref a4, .ref a5, .ref a6], aL E a2 5 (vp_updL ((carS t 5).2) 0 ((((carS t 5).2) 0) + (5 * ((carS t 5).1))))]) 1 0 rfl rfl (by omega) (by omega) rfl dP_carry_56 ?_
      exact j_vret hg hR () trivial rfl [0, 1] rfl (by decide) (by decide) (by decide) dP_carry_57
    | succ zk ih =>
      intro i  hi
      refine j_iload_n hg 2 dP_carry_4 rfl rfl ?_
      refine j_iconst hg (v := 5) dP_carry_5 (by decide) ?_
      refine j_nge_f hg (tgt := 43) i 5 rfl rfl (by omega) (by omega) (by omega) dP_carry_6 (by decide) ?_
      refine j_aload_n hg 0 dP_carry_9 rfl rfl ?_
      refine j_get hg (C := RX1) (T := TX1) (N := 6) inX1 0 rfl rfl 1 (by decide) m39 rfl dP_carry_10 ?_
      refine j_iload_n hg 2 dP_carry_13 rfl rfl ?_
      refine j_lald hg (v := ((carS t i).2) i) 1 i rfl rfl (by omega) (by omega) rfl dP_carry_14 ?_
      refine j_lload_n hg 1 dP_carry_15 rfl rfl ?_
      refine j_ladd hg (v := (((carS t i).2) i) + ((carS t i).1)) dP_carry_16 rfl ?_
      refine j_lstore hg (lv' := [(4, .long ((((carS t i).2) i) + ((carS t i).1))), (0, .ref h), (1, .long ((carS t i).1)), (3, .int (nI i))]) dP_carry_17 (by decide) rfl ?_
      refine j_aload_n hg 1 dP_carry_19 rfl rfl ?_
      refine j_get hg (C := RX1) (T := TX1) (N := 6) inX1 0 rfl rfl 1 (by decide) m39 rfl dP_carry_20 ?_
      refine j_iload_n hg 3 dP_carry_23 rfl rfl ?_
      refine j_lload hg 0 dP_carry_24 rfl ?_
      refine j_ldc2 hg (v := 67108863) m207 dP_carry_26 ?_
      refine j_land hg (v := ((((carS t i).2) i) + ((carS t i).1)) &&& 67108863) dP_carry_29 rfl ?_
      refine j_last hg (ws' := [ob h 1 [.ref a1, .ref a2, .ref a3, .ref a4, .ref a5, .ref a6], aL E a2 5 (vp_updL ((carS t i).2) i (((((carS t i).2) i) + ((carS t i).1)) &&& 67108863))]) 1 i rfl rfl (by omega) (by omega) rfl dP_carry_30 ?_
      refine j_lload hg 0 dP_carry_31 rfl ?_
      refine j_bipush hg (v := 26) dP_carry_33 (by decide) ?_
      refine j_lushr hg (v := lushr ((((carS t i).2) i) + ((carS t i).1)) 26) dP_carry_35 rfl ?_
      refine j_lstore_n hg (lv' := [(1, .long (lushr ((((carS t i).2) i) + ((carS t i).1)) 26)), (4, .long ((((carS t i).2) i) + ((carS t i).1))), (0, .ref h), (3, .int (nI i))]) dP_carry_36 rfl (by decide) rfl ?_
      refine j_iinc hg (kq := 3) (v := nI (i + 1)) (lv' := [(3, .int (nI (i + 1))), (1, .long (lushr ((((carS t i).2) i) + ((carS t i).1)) 26)), (4, .long ((((carS t i).2) i) + ((carS t i).1))), (0, .ref h)]) dP_carry_37 rfl (nI_add i 1) (by decide) rfl ?_
      refine j_goto hg (tgt := 4) dP_carry_40 (by decide) ?_
      refine j_pick [3, 1, 0] (lv' := [(0, .ref h), (1, .long (lushr ((((carS t i).2) i) + ((carS t i).1)) 26)), (3, .int (nI (i + 1)))]) rfl ?_
      exact ih (i + 1) (by omega)
  exact loop (5) 0 (by omega)

def rm_P_takePrimeOff : Room := { frames := 1, cells := 0, slots := 0, locals := 18 }
set_option maxHeartbeats 1000000 in
set_option maxRecDepth 100000 in
theorem c_P_takePrimeOff (l : Launch) (E : Ev) (h a1 a2 a3 a4 a5 a6 : Nat) (t p : Nat → Int64) : MC E l yP_takePrimeOff (cT yP_takePrimeOff cP_takePrimeOff 6 none) rm_P_takePrimeOff [.ref h] [ob h 1 [.ref a1, .ref a2, .ref a3, .ref a4, .ref a5, .ref a6], aL E a2 5 t, aL E a3 5 p] Unit (fun _ => True) (fun _ => none) (fun _ => [ob h 1 [.ref a1, .ref a2, .ref a3, .ref a4, .ref a5, .ref a6], aL E a2 5 (tpT t p), aL E a3 5 (tpP t p 5)]) := by
  refine MC.of (cc := cP_takePrimeOff) (nL := 6) (ret := none) (by decide) rfl cT_in (Nat.le_of_ble_eq_true rfl) (fun g hg hR => ?_)
  show J E 6 g [ob h 1 [.ref a1, .ref a2, .ref a3, .ref a4, .ref a5, .ref a6], aL E a2 5 t, aL E a3 5 p] [(0, .ref h)] 0 0 0 []
  refine j_ldc2 hg (v := 5) m226 dP_takePrimeOff_0 ?_
  refine j_lstore_n hg (lv' := [(1, .long 5), (0, .ref h)]) dP_takePrimeOff_3 rfl (by decide) rfl ?_
  refine j_iconst hg (v := 0) dP_takePrimeOff_4 (by decide) ?_
  refine j_istore_n hg (lv' := [(3, .int 0), (1, .long 5), (0, .ref h)]) dP_takePrimeOff_5 rfl (by decide) rfl ?_
  refine j_pick [2, 1, 0] (lv' := [(0, .ref h), (1, .long 5), (3, .int 0)]) rfl ?_
  have loop : ∀ (zk i : Nat), i + zk = 5 → J E 6 g [ob h 1 [.ref a1, .ref a2, .ref a3, .ref a4, .ref a5, .ref a6], aL E a2 5 t, aL E a3 5 (tpP t p i)] [(0, .ref h), (1, .long (tpO t i)), (3, .int (nI i))] 0 0 6 [] := by
    intro zk
    induction zk with
    | zero =>
      intro i  hi
      obtain rfl : 5 = i := by omega
      refine j_iload_n hg 2 dP_takePrimeOff_6 rfl rfl ?_
      refine j_iconst hg (v := 5) dP_takePrimeOff_7 (by decide) ?_
      refine j_nge_t hg (tgt := 45) 5 5 rfl rfl (by omega) (by omega) (by omega) dP_takePrimeOff_8 (by decide) ?_
      refine j_lload_n hg 1 dP_takePrimeOff_45 rfl rfl ?_
      refine j_lconst hg (v := 0) dP_takePrimeOff_46 (by decide) ?_
      refine j_lcmp hg (v := lg_cmp (tpO t 5) 0) dP_takePrimeOff_47 rfl ?_
      refine j_if_eq hg (tgt := 65) dP_takePrimeOff_48 (by decide) (fun hc => ?_) (fun hc => ?_)
      · skip
        have e : tpT t p = t := if_pos hc
        rw [e] at hR
        exact j_vret hg hR () trivial rfl [0, 1, 2] rfl (by decide) (by decide) (by decide) dP_takePrimeOff_65
      · skip
        have e : tpT t p = va_cpy (tpP t p 5) t 0 0 5 := if_neg hc
        rw [e] at hR
        refine j_aload_n hg 0 dP_takePrimeOff_51 rfl rfl ?_
        refine j_get hg (C := RX1) (T := TX1) (N := 6) inX1 0 rfl rfl 2 (by decide) m40 rfl dP_takePrimeOff_52 ?_
        refine j_iconst hg (v := 0) dP_takePrimeOff_55 (by decide) ?_
        refine j_aload_n hg 0 dP_takePrimeOff_56 rfl rfl ?_
        refine j_get hg (C := RX1) (T := TX1) (N := 6) inX1 0 rfl rfl 1 (by decide) m39 rfl dP_takePrimeOff_57 ?_
        refine j_iconst hg (v := 0) dP_takePrimeOff_60 (by decide) ?_
        refine j_iconst hg (v := 5) dP_takePrimeOff_61 (by decide) ?_
        refine j_copyL hg (ws' := [ob h 1 [.ref a1, .ref a2, .ref a3, .ref a4, .ref a5, .ref a6], aL E a2 5 (va_cpy (tpP t p 5) t 0 0 5), aL E a3 5 (tpP t p 5)]) 2 1 0 0 5 ⟨m196, m141, m140, m6⟩ rfl rfl rfl rfl rfl (by omega) (by omega) (by omega) (by omega) (Nat.le_of_ble_eq_true rfl) (Nat.le_of_ble_eq_true rfl) rfl dP_takePrimeOff_62 ?_
        exact j_vret hg hR () trivial rfl [0, 1, 2] rfl (by decide) (by decide) (by decide) dP_takePrimeOff_65
    | succ zk ih =>
      intro i  hi
      refine j_iload_n hg 2 dP_takePrimeOff_6 rfl rfl ?_
      refine j_iconst hg (v := 5) dP_takePrimeOff_7 (by decide) ?_
      refine j_nge_f hg (tgt := 45) i 5 rfl rfl (by omega) (by omega) (by omega) dP_takePrimeOff_8 (by decide) ?_
      refine j_aload_n hg 0 dP_takePrimeOff_11 rfl rfl ?_
      refine j_get hg (C := RX1) (T := TX1) (N := 6) inX1 0 rfl rfl 1 (by decide) m39 rfl dP_takePrimeOff_12 ?_
      refine j_iload_n hg 2 dP_takePrimeOff_15 rfl rfl ?_
      refine j_lald hg (v := t i) 1 i rfl rfl (by omega) (by omega) rfl dP_takePrimeOff_16 ?_
      refine j_lload_n hg 1 dP_takePrimeOff_17 rfl rfl ?_
      refine j_ladd hg (v := (t i) + (tpO t i)) dP_takePrimeOff_18 rfl ?_
      refine j_lstore hg (lv' := [(4, .long ((t i) + (tpO t i))), (0, .ref h), (1, .long (tpO t i)), (3, .int (nI i))]) dP_takePrimeOff_19 (by decide) rfl ?_
      refine j_aload_n hg 1 dP_takePrimeOff_21 rfl rfl ?_
      refine j_get hg (C := RX1) (T := TX1) (N := 6) inX1 0 rfl rfl 2 (by decide) m40 rfl dP_takePrimeOff_22 ?_
      refine j_iload_n hg 3 dP_takePrimeOff_25 rfl rfl ?_
      refine j_lload hg 0 dP_takePrimeOff_26 rfl ?_
      refine j_ldc2 hg (v := 67108863) m207 dP_takePrimeOff_28 ?_
      refine j_land hg (v := ((t i) + (tpO t i)) &&& 67108863) dP_takePrimeOff_31 rfl ?_
      refine j_last hg (ws' := [ob h 1 [.ref a1, .ref a2, .ref a3, .ref a4, .ref a5, .ref a6], aL E a2 5 t, aL E a3 5 (vp_updL (tpP t p i) i (((t i) + (tpO t i)) &&& 67108863))]) 2 i rfl rfl (by omega) (by omega) rfl dP_takePrimeOff_32 ?_
      refine j_lload hg 0 dP_takePrimeOff_33 rfl ?_
      refine j_bipush hg (v := 26) dP_takePrimeOff_35 (by decide) ?_
      refine j_lushr hg (v := lushr ((t i) + (tpO t i)) 26) dP_takePrimeOff_37 rfl ?_
      refine j_lstore_n hg (lv' := [(1, .long (lushr ((t i) + (tpO t i)) 26)), (4, .long ((t i) + (tpO t i))), (0, .ref h), (3, .int (nI i))]) dP_takePrimeOff_38 rfl (by decide) rfl ?_
      refine j_iinc hg (kq := 3) (v := nI (i + 1)) (lv' := [(3, .int (nI (i + 1))), (1, .long (lushr ((t i) + (tpO t i)) 26)), (4, .long ((t i) + (tpO t i))), (0, .ref h)]) dP_takePrimeOff_39 rfl (nI_add i 1) (by decide) rfl ?_
      refine j_goto hg (tgt := 6) dP_takePrimeOff_42 (by decide) ?_
      refine j_pick [3, 1, 0] (lv' := [(0, .ref h), (1, .long (lushr ((t i) + (tpO t i)) 26)), (3, .int (nI (i + 1)))]) rfl ?_
      exact ih (i + 1) (by omega)
  exact loop (5) 0 (by omega)

def rm_P_clampBlock : Room := { frames := 0, cells := 0, slots := 0, locals := 0 }
set_option maxHeartbeats 1000000 in
set_option maxRecDepth 100000 in
theorem c_P_clampBlock (l : Launch) (E : Ev) (h a1 a2 a3 a4 a5 a6 : Nat) (b : Nat → Int32) : MC E l yP_clampBlock (cT yP_clampBlock cP_clampBlock 2 none) rm_P_clampBlock [.ref h] [ob h 1 [.ref a1, .ref a2, .ref a3, .ref a4, .ref a5, .ref a6], aB E a6 17 b] Unit (fun _ => True) (fun _ => none) (fun _ => [ob h 1 [.ref a1, .ref a2, .ref a3, .ref a4, .ref a5, .ref a6], aB E a6 17 (clampF b)]) := by
  refine MC.of (cc := cP_clampBlock) (nL := 2) (ret := none) (by decide) rfl cT_in (Nat.le_of_ble_eq_true rfl) (fun g hg hR => ?_)
  show J E 2 g [ob h 1 [.ref a1, .ref a2, .ref a3, .ref a4, .ref a5, .ref a6], aB E a6 17 b] [(0, .ref h)] 0 0 0 []
  refine j_iconst hg (v := 3) dP_clampBlock_0 (by decide) ?_
  refine j_istore_n hg (lv' := [(1, .int 3), (0, .ref h)]) dP_clampBlock_1 rfl (by decide) rfl ?_
  refine j_pick [1, 0] (lv' := [(0, .ref h), (1, .int 3)]) rfl ?_
  have loop : ∀ (zk i : Nat), i + zk = 4 → J E 2 g [ob h 1 [.ref a1, .ref a2, .ref a3, .ref a4, .ref a5, .ref a6], aB E a6 17 (clamp3 b i)] [(0, .ref h), (1, .int (nI (3 + 4 * i)))] 0 0 2 [] := by
    intro zk
    induction zk with
    | zero =>
      intro i  hi
      obtain rfl : 4 = i := by omega
      refine j_iload_n hg 1 dP_clampBlock_2 rfl rfl ?_
      refine j_bipush hg (v := 16) dP_clampBlock_3 (by decide) ?_
      refine j_nge_t hg (tgt := 26) (3 + 4 * 4) 16 rfl rfl (by omega) (by omega) (by omega) dP_clampBlock_5 (by decide) ?_
      refine j_iconst hg (v := 4) dP_clampBlock_26 (by decide) ?_
      refine j_istore_n hg (lv' := [(1, .int 4), (0, .ref h)]) dP_clampBlock_27 rfl (by decide) rfl ?_
      refine j_pick [1, 0] (lv' := [(0, .ref h), (1, .int 4)]) rfl ?_
      have loop2 : ∀ (zk i : Nat), i + zk = 3 → J E 2 g [ob h 1 [.ref a1, .ref a2, .ref a3, .ref a4, .ref a5, .ref a6], aB E a6 17 (clamp4 (clamp3 b 4) i)] [(0, .ref h), (1, .int (nI (4 + 4 * i)))] 0 0 28 [] := by
        intro zk
        induction zk with
        | zero =>
          intro i  hi
          obtain rfl : 3 = i := by omega
          refine j_iload_n hg 1 dP_clampBlock_28 rfl rfl ?_
          refine j_bipush hg (v := 16) dP_clampBlock_29 (by decide) ?_
          refine j_nge_t hg (tgt := 52) (4 + 4 * 3) 16 rfl rfl (by omega) (by omega) (by omega) dP_clampBlock_31 (by decide) ?_
          exact j_vret hg hR () trivial rfl [0, 1] rfl (by decide) (by decide) (by decide) dP_clampBlock_52
        | succ zk ih =>
          intro i  hi
          refine j_iload_n hg 1 dP_clampBlock_28 rfl rfl ?_
          refine j_bipush hg (v := 16) dP_clampBlock_29 (by decide) ?_
          refine j_nge_f hg (tgt := 52) (4 + 4 * i) 16 rfl rfl (by omega) (by omega) (by omega) dP_clampBlock_31 (by decide) ?_
          refine j_aload_n hg 0 dP_clampBlock_34 rfl rfl ?_
          refine j_get hg (C := RX1) (T := TX1) (N := 6) inX1 0 rfl rfl 5 (by decide) m43 rfl dP_clampBlock_35 ?_
          refine j_iload_n hg 1 dP_clampBlock_38 rfl rfl ?_
          refine j_dup2_11 hg dP_clampBlock_39 rfl rfl ?_
          refine j_bald hg (v := (clamp4 (clamp3 b 4) i) (4 + 4 * i)) 1 (4 + 4 * i) rfl rfl (by omega) (by omega) rfl dP_clampBlock_40 ?_
          refine j_bipush hg (v := -4) dP_clampBlock_41 (by decide) ?_
          refine j_iand hg (v := ((clamp4 (clamp3 b 4) i) (4 + 4 * i)) &&& (-4)) dP_clampBlock_43 rfl ?_
          refine j_i2b hg (v := sB (((clamp4 (clamp3 b 4) i) (4 + 4 * i)) &&& (-4))) dP_clampBlock_44 rfl ?_
          refine j_bast hg (ws' := [ob h 1 [.ref a1, .ref a2, .ref a3, .ref a4, .ref a5, .ref a6], aB E a6 17 (upd (clamp4 (clamp3 b 4) i) (4 + 4 * i) (sB (((clamp4 (clamp3 b 4) i) (4 + 4 * i)) &&& (-4))))]) 1 (4 + 4 * i) rfl rfl (by omega) (by omega) (sB_nar _) rfl dP_clampBlock_45 ?_
          refine j_iinc hg (kq := 1) (v := nI (4 + 4 * (i + 1))) (lv' := [(1, .int (nI (4 + 4 * (i + 1)))), (0, .ref h)]) dP_clampBlock_46 rfl (Eq.trans (nI_add (4 + 4 * i) 4) (congrArg nI (by omega))) (by decide) rfl ?_
          refine j_goto hg (tgt := 28) dP_clampBlock_49 (by decide) ?_
          refine j_pick [1, 0] (lv' := [(0, .ref h), (1, .int (nI (4 + 4 * (i + 1))))]) rfl ?_
          exact ih (i + 1) (by omega)
      exact loop2 (3) 0 (by omega)
    | succ zk ih =>
      intro i  hi
      refine j_iload_n hg 1 dP_clampBlock_2 rfl rfl ?_
      refine j_bipush hg (v := 16) dP_clampBlock_3 (by decide) ?_
      refine j_nge_f hg (tgt := 26) (3 + 4 * i) 16 rfl rfl (by omega) (by omega) (by omega) dP_clampBlock_5 (by decide) ?_
      refine j_aload_n hg 0 dP_clampBlock_8 rfl rfl ?_
      refine j_get hg (C := RX1) (T := TX1) (N := 6) inX1 0 rfl rfl 5 (by decide) m43 rfl dP_clampBlock_9 ?_
      refine j_iload_n hg 1 dP_clampBlock_12 rfl rfl ?_
      refine j_dup2_11 hg dP_clampBlock_13 rfl rfl ?_
      refine j_bald hg (v := (clamp3 b i) (3 + 4 * i)) 1 (3 + 4 * i) rfl rfl (by omega) (by omega) rfl dP_clampBlock_14 ?_
      refine j_bipush hg (v := 15) dP_clampBlock_15 (by decide) ?_
      refine j_iand hg (v := ((clamp3 b i) (3 + 4 * i)) &&& 15) dP_clampBlock_17 rfl ?_
      refine j_i2b hg (v := sB (((clamp3 b i) (3 + 4 * i)) &&& 15)) dP_clampBlock_18 rfl ?_
      refine j_bast hg (ws' := [ob h 1 [.ref a1, .ref a2, .ref a3, .ref a4, .ref a5, .ref a6], aB E a6 17 (upd (clamp3 b i) (3 + 4 * i) (sB (((clamp3 b i) (3 + 4 * i)) &&& 15)))]) 1 (3 + 4 * i) rfl rfl (by omega) (by omega) (sB_nar _) rfl dP_clampBlock_19 ?_
      refine j_iinc hg (kq := 1) (v := nI (3 + 4 * (i + 1))) (lv' := [(1, .int (nI (3 + 4 * (i + 1)))), (0, .ref h)]) dP_clampBlock_20 rfl (Eq.trans (nI_add (3 + 4 * i) 4) (congrArg nI (by omega))) (by decide) rfl ?_
      refine j_goto hg (tgt := 2) dP_clampBlock_23 (by decide) ?_
      refine j_pick [1, 0] (lv' := [(0, .ref h), (1, .int (nI (3 + 4 * (i + 1))))]) rfl ?_
      exact ih (i + 1) (by omega)
  exact loop (4) 0 (by omega)

def rm_P_blockPart : Room := { frames := 1, cells := 0, slots := 0, locals := 21 }
set_option maxHeartbeats 1000000 in
set_option maxRecDepth 100000 in
theorem c_P_blockPart (l : Launch) (E : Ev) (h a1 a2 a3 a4 a5 a6 : Nat) (b : Nat → Int32) (i : Nat) (hi : i < 5) : MC E l yP_blockPart (cT yP_blockPart cP_blockPart 4 (some .long)) rm_P_blockPart [.ref h, .int (nI i)] [ob h 1 [.ref a1, .ref a2, .ref a3, .ref a4, .ref a5, .ref a6], aB E a6 17 b] Unit (fun _ => True) (fun _ => some (.long (bpart b i))) (fun _ => [ob h 1 [.ref a1, .ref a2, .ref a3, .ref a4, .ref a5, .ref a6], aB E a6 17 b]) := by
  refine MC.of (cc := cP_blockPart) (nL := 4) (ret := (some .long)) (by decide) rfl cT_in (Nat.le_of_ble_eq_true rfl) (fun g hg hR => ?_)
  show J E 4 g [ob h 1 [.ref a1, .ref a2, .ref a3, .ref a4, .ref a5, .ref a6], aB E a6 17 b] [(0, .ref h), (1, .int (nI i))] 0 0 0 []
  refine j_bipush hg (v := 26) dP_blockPart_0 (by decide) ?_
  refine j_iload_n hg 1 dP_blockPart_2 rfl rfl ?_
  refine j_imul hg (v := nI (26 * i)) dP_blockPart_3 (pk_mul 26 i) ?_
  refine j_istore_n hg (lv' := [(2, .int (nI (26 * i))), (0, .ref h), (1, .int (nI i))]) dP_blockPart_4 rfl (by decide) rfl ?_
  refine j_aload_n hg 1 dP_blockPart_5 rfl rfl ?_
  refine j_get hg (C := RX1) (T := TX1) (N := 6) inX1 0 rfl rfl 5 (by decide) m43 rfl dP_blockPart_6 ?_
  refine j_iload_n hg 0 dP_blockPart_9 rfl rfl ?_
  refine j_iconst hg (v := 3) dP_blockPart_10 (by decide) ?_
  refine j_iushr hg (v := ushr (nI (26 * i)) 3) dP_blockPart_11 rfl ?_
  refine j_topi (u263 i hi) ?_
  refine j_callSN hg (n := 2) (y := yS_readLowestFirst) (rm := rm_S_readLowestFirst) (Ws := (cT yS_readLowestFirst cS_readLowestFirst 2 (some .int))) (As := [.ref a6, .int (nI (26 * i / 8))]) (rest := []) (wr := [ob h 1 [.ref a1, .ref a2, .ref a3, .ref a4, .ref a5, .ref a6]]) (host := RX3) (c_S_readLowestFirst l E a6 17 b (26 * i / 8) (by omega) (by omega)) (gdT m168) rfl m1 (by decide +kernel) m167 (by decide +kernel) ⟨by decide, by decide⟩ rfl rfl (Nat.le_of_ble_eq_true rfl) ⟨by decide, by decide⟩ [1] [0] rfl rfl (by decide) (by decide) (by decide) dP_blockPart_12 (fun _ _ => ?_)
  show J E 4 g [ob h 1 [.ref a1, .ref a2, .ref a3, .ref a4, .ref a5, .ref a6], aB E a6 17 b] [(2, .int (nI (26 * i))), (0, .ref h), (1, .int (nI i))] 0 0 15 [.int (rl b (26 * i / 8))]
  refine j_istore_n hg (lv' := [(3, .int (rl b (26 * i / 8))), (2, .int (nI (26 * i))), (0, .ref h), (1, .int (nI i))]) dP_blockPart_15 rfl (by decide) rfl ?_
  refine j_iload_n hg 0 dP_blockPart_16 rfl rfl ?_
  refine j_i2l hg (v := (rl b (26 * i / 8)).toInt64) dP_blockPart_17 rfl ?_
  refine j_ldc2 hg (v := 4294967295) m206 dP_blockPart_18 ?_
  refine j_land hg (v := ((rl b (26 * i / 8)).toInt64) &&& 4294967295) dP_blockPart_21 rfl ?_
  refine j_iload_n hg 1 dP_blockPart_22 rfl rfl ?_
  refine j_bipush hg (v := 7) dP_blockPart_23 (by decide) ?_
  refine j_iand hg (v := (nI (26 * i)) &&& 7) dP_blockPart_25 rfl ?_
  refine j_lushr hg (v := lushr (((rl b (26 * i / 8)).toInt64) &&& 4294967295) ((nI (26 * i)) &&& 7)) dP_blockPart_26 rfl ?_
  refine j_ldc2 hg (v := 67108863) m207 dP_blockPart_27 ?_
  refine j_land hg (v := (lushr (((rl b (26 * i / 8)).toInt64) &&& 4294967295) ((nI (26 * i)) &&& 7)) &&& 67108863) dP_blockPart_30 rfl ?_
  exact j_lret hg hR () trivial rfl [0, 1] rfl (by decide) (by decide) (by decide) dP_blockPart_31

def rm_P_multiply : Room := { frames := 1, cells := 0, slots := 0, locals := 25 }
set_option maxHeartbeats 1000000 in
set_option maxRecDepth 100000 in
theorem c_P_multiply (l : Launch) (E : Ev) (h a1 a2 a3 a4 a5 a6 : Nat) (t r p : Nat → Int64) : MC E l yP_multiply (cT yP_multiply cP_multiply 7 none) rm_P_multiply [.ref h] [ob h 1 [.ref a1, .ref a2, .ref a3, .ref a4, .ref a5, .ref a6], aL E a1 5 r, aL E a2 5 t, aL E a3 5 p] Unit (fun _ => True) (fun _ => none) (fun _ => [ob h 1 [.ref a1, .ref a2, .ref a3, .ref a4, .ref a5, .ref a6], aL E a1 5 r, aL E a2 5 (mulT t r p), aL E a3 5 (mulP t r p 5)]) := by
  refine MC.of (cc := cP_multiply) (nL := 7) (ret := none) (by decide) rfl cT_in (Nat.le_of_ble_eq_true rfl) (fun g hg hR => ?_)
  show J E 7 g [ob h 1 [.ref a1, .ref a2, .ref a3, .ref a4, .ref a5, .ref a6], aL E a1 5 r, aL E a2 5 t, aL E a3 5 p] [(0, .ref h)] 0 0 0 []
  refine j_iconst hg (v := 0) dP_multiply_0 (by decide) ?_
  refine j_istore_n hg (lv' := [(1, .int 0), (0, .ref h)]) dP_multiply_1 rfl (by decide) rfl ?_
  refine j_pick [1, 0] (lv' := [(0, .ref h), (1, .int 0)]) rfl ?_
  have loop : ∀ (zk i : Nat), i + zk = 5 → J E 7 g [ob h 1 [.ref a1, .ref a2, .ref a3, .ref a4, .ref a5, .ref a6], aL E a1 5 r, aL E a2 5 t, aL E a3 5 (mulP t r p i)] [(0, .ref h), (1, .int (nI i))] 0 0 2 [] := by
    intro zk
    induction zk with
    | zero =>
      intro i  hi
      obtain rfl : 5 = i := by omega
      refine j_iload_n hg 1 dP_multiply_2 rfl rfl ?_
      refine j_iconst hg (v := 5) dP_multiply_3 (by decide) ?_
      refine j_nge_t hg (tgt := 108) 5 5 rfl rfl (by omega) (by omega) (by omega) dP_multiply_4 (by decide) ?_
      refine j_aload_n hg 0 dP_multiply_108 rfl rfl ?_
      refine j_get hg (C := RX1) (T := TX1) (N := 6) inX1 0 rfl rfl 2 (by decide) m40 rfl dP_multiply_109 ?_
      refine j_iconst hg (v := 0) dP_multiply_112 (by decide) ?_
      refine j_aload_n hg 0 dP_multiply_113 rfl rfl ?_
      refine j_get hg (C := RX1) (T := TX1) (N := 6) inX1 0 rfl rfl 1 (by decide) m39 rfl dP_multiply_114 ?_
      refine j_iconst hg (v := 0) dP_multiply_117 (by decide) ?_
      refine j_iconst hg (v := 5) dP_multiply_118 (by decide) ?_
      refine j_copyL hg (ws' := [ob h 1 [.ref a1, .ref a2, .ref a3, .ref a4, .ref a5, .ref a6], aL E a1 5 r, aL E a2 5 (va_cpy (mulP t r p 5) t 0 0 5), aL E a3 5 (mulP t r p 5)]) 3 2 0 0 5 ⟨m196, m141, m140, m6⟩ rfl rfl rfl rfl rfl (by omega) (by omega) (by omega) (by omega) (Nat.le_of_ble_eq_true rfl) (Nat.le_of_ble_eq_true rfl) rfl dP_multiply_119 ?_
      refine j_aload_n hg 0 dP_multiply_122 rfl rfl ?_
      refine j_callV hg (n := 0) (y := yP_carry) (rm := rm_P_carry) (Ws := (cT yP_carry cP_carry 6 none)) (As := []) (rest := []) (wr := [aL E a1 5 r, aL E a3 5 (mulP t r p 5)]) 0 rfl rfl (c_P_carry l E h a1 a2 a3 a4 a5 a6 (va_cpy (mulP t r p 5) t 0 0 5)) (gdV m227 m229 ms9 m3 m230) rfl (by decide +kernel) ⟨by decide, by decide⟩ rfl rfl (Nat.le_of_ble_eq_true rfl) ⟨by decide, by decide⟩ [0, 2] [1, 3] rfl rfl (by decide) (by decide) (by decide) dP_multiply_123 (fun _ _ => ?_)
      show J E 7 g [aL E a1 5 r, aL E a3 5 (mulP t r p 5), ob h 1 [.ref a1, .ref a2, .ref a3, .ref a4, .ref a5, .ref a6], aL E a2 5 (car (va_cpy (mulP t r p 5) t 0 0 5))] [(0, .ref h), (1, .int 5)] 0 0 126 []
      refine j_aload_n hg 0 dP_multiply_126 rfl rfl ?_
      refine j_callV hg (n := 0) (y := yP_carry) (rm := rm_P_carry) (Ws := (cT yP_carry cP_carry 6 none)) (As := []) (rest := []) (wr := [aL E a1 5 r, aL E a3 5 (mulP t r p 5)]) 0 rfl rfl (c_P_carry l E h a1 a2 a3 a4 a5 a6 (car (va_cpy (mulP t r p 5) t 0 0 5))) (gdV m227 m229 ms9 m3 m230) rfl (by decide +kernel) ⟨by decide, by decide⟩ rfl rfl (Nat.le_of_ble_eq_true rfl) ⟨by decide, by decide⟩ [2, 3] [0, 1] rfl rfl (by decide) (by decide) (by decide) dP_multiply_127 (fun _ _ => ?_)
      show J E 7 g [aL E a1 5 r, aL E a3 5 (mulP t r p 5), ob h 1 [.ref a1, .ref a2, .ref a3, .ref a4, .ref a5, .ref a6], aL E a2 5 (car (car (va_cpy (mulP t r p 5) t 0 0 5)))] [(0, .ref h), (1, .int 5)] 0 0 130 []
      exact j_vret hg hR () trivial rfl [2, 0, 3, 1] rfl (by decide) (by decide) (by decide) dP_multiply_130
    | succ zk ih =>
      intro i  hi
      refine j_iload_n hg 1 dP_multiply_2 rfl rfl ?_
      refine j_iconst hg (v := 5) dP_multiply_3 (by decide) ?_
      refine j_nge_f hg (tgt := 108) i 5 rfl rfl (by omega) (by omega) (by omega) dP_multiply_4 (by decide) ?_
      refine j_lconst hg (v := 0) dP_multiply_7 (by decide) ?_
      refine j_lstore_n hg (lv' := [(2, .long 0), (0, .ref h), (1, .int (nI i))]) dP_multiply_8 rfl (by decide) rfl ?_
      refine j_lconst hg (v := 0) dP_multiply_9 (by decide) ?_
      refine j_lstore hg (lv' := [(4, .long 0), (2, .long 0), (0, .ref h), (1, .int (nI i))]) dP_multiply_10 (by decide) rfl ?_
      refine j_iconst hg (v := 0) dP_multiply_12 (by decide) ?_
      refine j_istore hg (lv' := [(6, .int 0), (4, .long 0), (2, .long 0), (0, .ref h), (1, .int (nI i))]) dP_multiply_13 (by decide) rfl ?_
      refine j_pick [3, 4, 2, 1, 0] (lv' := [(0, .ref h), (1, .int (nI i)), (2, .long 0), (4, .long 0), (6, .int 0)]) rfl ?_
      have loop2 : ∀ (zk j : Nat), j + zk = i + 1 → J E 7 g [ob h 1 [.ref a1, .ref a2, .ref a3, .ref a4, .ref a5, .ref a6], aL E a1 5 r, aL E a2 5 t, aL E a3 5 (mulP t r p i)] [(0, .ref h), (1, .int (nI i)), (2, .long (mulS t r i j)), (4, .long 0), (6, .int (nI j))] 0 0 15 [] := by
        intro zk
        induction zk with
        | zero =>
          intro j  hi
          obtain rfl : i + 1 = j := by omega
          refine j_iload hg 4 dP_multiply_15 rfl ?_
          refine j_iload_n hg 1 dP_multiply_17 rfl rfl ?_
          refine j_ngt_t hg (tgt := 47) (i + 1) i rfl rfl (by omega) (by omega) (by omega) dP_multiply_18 (by decide) ?_
          refine j_iload_n hg 1 dP_multiply_47 rfl rfl ?_
          refine j_iconst hg (v := 1) dP_multiply_48 (by decide) ?_
          refine j_iadd hg (v := nI (i + 1)) dP_multiply_49 (nI_add i 1) ?_
          refine j_istore hg (lv' := [(6, .int (nI (i + 1))), (0, .ref h), (1, .int (nI i)), (2, .long (mulS t r i (i + 1))), (4, .long 0)]) dP_multiply_50 (by decide) rfl ?_
          refine j_pick [1, 2, 3, 4, 0] (lv' := [(0, .ref h), (1, .int (nI i)), (2, .long (mulS t r i (i + 1))), (4, .long 0), (6, .int (nI (i + 1)))]) rfl ?_
          have loop3 : ∀ (zk j : Nat), j + zk = 4 - i → J E 7 g [ob h 1 [.ref a1, .ref a2, .ref a3, .ref a4, .ref a5, .ref a6], aL E a1 5 r, aL E a2 5 t, aL E a3 5 (mulP t r p i)] [(0, .ref h), (1, .int (nI i)), (2, .long (mulS t r i (i + 1))), (4, .long (mulW t r i j)), (6, .int (nI (i + 1 + j)))] 0 0 52 [] := by
            intro zk
            induction zk with
            | zero =>
              intro j  hi
              obtain rfl : 4 - i = j := by omega
              refine j_iload hg 4 dP_multiply_52 rfl ?_
              refine j_iconst hg (v := 5) dP_multiply_54 (by decide) ?_
              refine j_nge_t hg (tgt := 88) (i + 1 + (4 - i)) 5 rfl rfl (by omega) (by omega) (by omega) dP_multiply_55 (by decide) ?_
              refine j_aload_n hg 0 dP_multiply_88 rfl rfl ?_
              refine j_get hg (C := RX1) (T := TX1) (N := 6) inX1 0 rfl rfl 2 (by decide) m40 rfl dP_multiply_89 ?_
              refine j_iload_n hg 1 dP_multiply_92 rfl rfl ?_
              refine j_lload_n hg 2 dP_multiply_93 rfl rfl ?_
              refine j_ldc2 hg (v := 5) m226 dP_multiply_94 ?_
              refine j_lload hg 3 dP_multiply_97 rfl ?_
              refine j_lmul hg (v := 5 * (mulW t r i (4 - i))) dP_multiply_99 rfl ?_
              refine j_ladd hg (v := (mulS t r i (i + 1)) + (5 * (mulW t r i (4 - i)))) dP_multiply_100 rfl ?_
              refine j_last hg (ws' := [ob h 1 [.ref a1, .ref a2, .ref a3, .ref a4, .ref a5, .ref a6], aL E a1 5 r, aL E a2 5 t, aL E a3 5 (vp_updL (mulP t r p i) i ((mulS t r i (i + 1)) + (5 * (mulW t r i (4 - i)))))]) 3 i rfl rfl (by omega) (by omega) rfl dP_multiply_101 ?_
              refine j_iinc hg (kq := 1) (v := nI (i + 1)) (lv' := [(1, .int (nI (i + 1))), (0, .ref h), (2, .long (mulS t r i (i + 1))), (4, .long (mulW t r i (4 - i))), (6, .int (nI (i + 1 + (4 - i))))]) dP_multiply_102 rfl (nI_add i 1) (by decide) rfl ?_
              refine j_goto hg (tgt := 2) dP_multiply_105 (by decide) ?_
              refine j_pick [1, 0] (lv' := [(0, .ref h), (1, .int (nI (i + 1)))]) rfl ?_
              exact ih (i + 1) (by omega)
            | succ zk ih =>
              intro j  hi
              refine j_iload hg 4 dP_multiply_52 rfl ?_
              refine j_iconst hg (v := 5) dP_multiply_54 (by decide) ?_
              refine j_nge_f hg (tgt := 88) (i + 1 + j) 5 rfl rfl (by omega) (by omega) (by omega) dP_multiply_55 (by decide) ?_
              refine j_lload hg 3 dP_multiply_58 rfl ?_
              refine j_aload_n hg 0 dP_multiply_60 rfl rfl ?_
              refine j_get hg (C := RX1) (T := TX1) (N := 6) inX1 0 rfl rfl 1 (by decide) m39 rfl dP_multiply_61 ?_
              refine j_iload hg 4 dP_multiply_64 rfl ?_
              refine j_lald hg (v := t (i + 1 + j)) 2 (i + 1 + j) rfl rfl (by omega) (by omega) rfl dP_multiply_66 ?_
              refine j_aload_n hg 0 dP_multiply_67 rfl rfl ?_
              refine j_get hg (C := RX1) (T := TX1) (N := 6) inX1 0 rfl rfl 0 (by decide) m38 rfl dP_multiply_68 ?_
              refine j_iload_n hg 1 dP_multiply_71 rfl rfl ?_
              refine j_iload hg 4 dP_multiply_72 rfl ?_
              refine j_isub hg (v := (nI i) - (nI (i + 1 + j))) dP_multiply_74 rfl ?_
              refine j_iconst hg (v := 5) dP_multiply_75 (by decide) ?_
              refine j_iadd hg (v := ((nI i) - (nI (i + 1 + j))) + 5) dP_multiply_76 rfl ?_
              refine j_topi (nI_sba i (i + 1 + j) 5 (by omega)) ?_
              refine j_lald hg (v := r (i + 5 - (i + 1 + j))) 1 (i + 5 - (i + 1 + j)) rfl rfl (by omega) (by omega) rfl dP_multiply_77 ?_
              refine j_lmul hg (v := (t (i + 1 + j)) * (r (i + 5 - (i + 1 + j)))) dP_multiply_78 rfl ?_
              refine j_ladd hg (v := (mulW t r i j) + ((t (i + 1 + j)) * (r (i + 5 - (i + 1 + j))))) dP_multiply_79 rfl ?_
              refine j_lstore hg (lv' := [(4, .long ((mulW t r i j) + ((t (i + 1 + j)) * (r (i + 5 - (i + 1 + j)))))), (0, .ref h), (1, .int (nI i)), (2, .long (mulS t r i (i + 1))), (6, .int (nI (i + 1 + j)))]) dP_multiply_80 (by decide) rfl ?_
              refine j_iinc hg (kq := 4) (v := nI (i + 1 + (j + 1))) (lv' := [(6, .int (nI (i + 1 + (j + 1)))), (4, .long ((mulW t r i j) + ((t (i + 1 + j)) * (r (i + 5 - (i + 1 + j)))))), (0, .ref h), (1, .int (nI i)), (2, .long (mulS t r i (i + 1)))]) dP_multiply_82 rfl (Eq.trans (nI_add (i + 1 + j) 1) (congrArg nI (by omega))) (by decide) rfl ?_
              refine j_goto hg (tgt := 52) dP_multiply_85 (by decide) ?_
              refine j_pick [2, 3, 4, 1, 0] (lv' := [(0, .ref h), (1, .int (nI i)), (2, .long (mulS t r i (i + 1))), (4, .long ((mulW t r i j) + ((t (i + 1 + j)) * (r (i + 5 - (i + 1 + j)))))), (6, .int (nI (i + 1 + (j + 1))))]) rfl ?_
              exact ih (j + 1) (by omega)
          exact loop3 (4 - i) 0 (by omega)
        | succ zk ih =>
          intro j  hi
          refine j_iload hg 4 dP_multiply_15 rfl ?_
          refine j_iload_n hg 1 dP_multiply_17 rfl rfl ?_
          refine j_ngt_f hg (tgt := 47) j i rfl rfl (by omega) (by omega) (by omega) dP_multiply_18 (by decide) ?_
          refine j_lload_n hg 2 dP_multiply_21 rfl rfl ?_
          refine j_aload_n hg 0 dP_multiply_22 rfl rfl ?_
          refine j_get hg (C := RX1) (T := TX1) (N := 6) inX1 0 rfl rfl 1 (by decide) m39 rfl dP_multiply_23 ?_
          refine j_iload hg 4 dP_multiply_26 rfl ?_
          refine j_lald hg (v := t j) 2 j rfl rfl (by omega) (by omega) rfl dP_multiply_28 ?_
          refine j_aload_n hg 0 dP_multiply_29 rfl rfl ?_
          refine j_get hg (C := RX1) (T := TX1) (N := 6) inX1 0 rfl rfl 0 (by decide) m38 rfl dP_multiply_30 ?_
          refine j_iload_n hg 1 dP_multiply_33 rfl rfl ?_
          refine j_iload hg 4 dP_multiply_34 rfl ?_
          refine j_isub hg (v := nI (i - j)) dP_multiply_36 (pk_sub (a := i) (b := j) (by omega)) ?_
          refine j_lald hg (v := r (i - j)) 1 (i - j) rfl rfl (by omega) (by omega) rfl dP_multiply_37 ?_
          refine j_lmul hg (v := (t j) * (r (i - j))) dP_multiply_38 rfl ?_
          refine j_ladd hg (v := (mulS t r i j) + ((t j) * (r (i - j)))) dP_multiply_39 rfl ?_
          refine j_lstore_n hg (lv' := [(2, .long ((mulS t r i j) + ((t j) * (r (i - j))))), (0, .ref h), (1, .int (nI i)), (4, .long 0), (6, .int (nI j))]) dP_multiply_40 rfl (by decide) rfl ?_
          refine j_iinc hg (kq := 4) (v := nI (j + 1)) (lv' := [(6, .int (nI (j + 1))), (2, .long ((mulS t r i j) + ((t j) * (r (i - j))))), (0, .ref h), (1, .int (nI i)), (4, .long 0)]) dP_multiply_41 rfl (nI_add j 1) (by decide) rfl ?_
          refine j_goto hg (tgt := 15) dP_multiply_44 (by decide) ?_
          refine j_pick [2, 3, 1, 4, 0] (lv' := [(0, .ref h), (1, .int (nI i)), (2, .long ((mulS t r i j) + ((t j) * (r (i - j))))), (4, .long 0), (6, .int (nI (j + 1)))]) rfl ?_
          exact ih (j + 1) (by omega)
      exact loop2 (i + 1) 0 (by omega)
  exact loop (5) 0 (by omega)
end
section
def rm_P_addBlock : Room := { frames := 2, cells := 0, slots := 0, locals := 51 }
set_option maxHeartbeats 1000000 in
set_option maxRecDepth 100000 in
theorem c_P_addBlock (l : Launch) (E : Ev) (h a1 a2 a3 a4 a5 a6 : Nat) (rr n : Nat) (r : Nat → Int64) (x : TPB) (row : Nat → Int32) (f sz one : Nat) (hb : Byt row) (h1 : f + sz ≤ n) (h2 : sz ≤ 16) (h3 : one ≤ 16) (h4 : n < 2147483648) : MC E l yP_addBlock (cT yP_addBlock cP_addBlock 6 none) rm_P_addBlock [.ref h, .ref rr, .int (nI f), .int (nI sz), .int (nI one)] [ob h 1 [.ref a1, .ref a2, .ref a3, .ref a4, .ref a5, .ref a6], aL E a1 5 r, aL E a2 5 x.1, aL E a3 5 x.2.1, aB E a6 17 x.2.2, aB E rr n row] Unit (fun _ => True) (fun _ => none) (fun _ => [ob h 1 [.ref a1, .ref a2, .ref a3, .ref a4, .ref a5, .ref a6], aL E a1 5 r, aL E a2 5 ((abkF r x row f sz one).1), aL E a3 5 ((abkF r x row f sz one).2.1), aB E a6 17 ((abkF r x row f sz one).2.2), aB E rr n row]) := by
  refine MC.of (cc := cP_addBlock) (nL := 6) (ret := none) (by decide) rfl cT_in (Nat.le_of_ble_eq_true rfl) (fun g hg hR => ?_)
  show J E 6 g [ob h 1 [.ref a1, .ref a2, .ref a3, .ref a4, .ref a5, .ref a6], aL E a1 5 r, aL E a2 5 x.1, aL E a3 5 x.2.1, aB E a6 17 x.2.2, aB E rr n row] [(0, .ref h), (1, .ref rr), (2, .int (nI f)), (3, .int (nI sz)), (4, .int (nI one))] 0 0 0 []
  refine j_aload_n hg 0 dP_addBlock_0 rfl rfl ?_
  refine j_get hg (C := RX1) (T := TX1) (N := 6) inX1 0 rfl rfl 5 (by decide) m43 rfl dP_addBlock_1 ?_
  refine j_iconst hg (v := 0) dP_addBlock_4 (by decide) ?_
  refine j_callX hg (n := 2) (y := yA_fill) (rm := rm_A_fill) (Ws := (cT yA_fill cA_fill 4 none)) (As := [.ref a6, .int 0]) (rest := []) (wr := [ob h 1 [.ref a1, .ref a2, .ref a3, .ref a4, .ref a5, .ref a6], aL E a1 5 r, aL E a2 5 x.1, aL E a3 5 x.2.1, aB E rr n row]) (c_A_fill l E a6 17 x.2.2 0 (by decide) (by omega)) (gdX m219 m220 m8 m221) rfl (by decide +kernel) ⟨by decide, by decide⟩ rfl rfl (Nat.le_of_ble_eq_true rfl) ⟨by decide, by decide⟩ [4] [0, 1, 2, 3, 5] rfl rfl (by decide) (by decide) (by decide) dP_addBlock_5 (fun _ _ => ?_)
  show J E 6 g [ob h 1 [.ref a1, .ref a2, .ref a3, .ref a4, .ref a5, .ref a6], aL E a1 5 r, aL E a2 5 x.1, aL E a3 5 x.2.1, aB E rr n row, aB E a6 17 (filB x.2.2 0 17)] [(0, .ref h), (1, .ref rr), (2, .int (nI f)), (3, .int (nI sz)), (4, .int (nI one))] 0 0 8 []
  refine j_aload_n hg 1 dP_addBlock_8 rfl rfl ?_
  refine j_iload_n hg 2 dP_addBlock_9 rfl rfl ?_
  refine j_aload_n hg 0 dP_addBlock_10 rfl rfl ?_
  refine j_get hg (C := RX1) (T := TX1) (N := 6) inX1 0 rfl rfl 5 (by decide) m43 rfl dP_addBlock_11 ?_
  refine j_iconst hg (v := 0) dP_addBlock_14 (by decide) ?_
  refine j_iload_n hg 3 dP_addBlock_15 rfl rfl ?_
  refine j_copyB hg (ws' := [ob h 1 [.ref a1, .ref a2, .ref a3, .ref a4, .ref a5, .ref a6], aL E a1 5 r, aL E a2 5 x.1, aL E a3 5 x.2.1, aB E rr n row, aB E a6 17 (va_cpy row (filB x.2.2 0 17) f 0 sz)]) 4 5 f 0 sz ⟨m196, m141, m140, m6⟩ rfl rfl rfl rfl rfl (by omega) (by omega) (by omega) (by omega) (fun t _ => hb _) (Nat.le_of_ble_eq_true rfl) (Nat.le_of_ble_eq_true rfl) rfl dP_addBlock_16 ?_
  refine j_aload_n hg 0 dP_addBlock_19 rfl rfl ?_
  refine j_get hg (C := RX1) (T := TX1) (N := 6) inX1 0 rfl rfl 5 (by decide) m43 rfl dP_addBlock_20 ?_
  refine j_iload hg 4 dP_addBlock_23 rfl ?_
  refine j_iconst hg (v := 1) dP_addBlock_25 (by decide) ?_
  refine j_bast hg (ws' := [ob h 1 [.ref a1, .ref a2, .ref a3, .ref a4, .ref a5, .ref a6], aL E a1 5 r, aL E a2 5 x.1, aL E a3 5 x.2.1, aB E rr n row, aB E a6 17 (upd (va_cpy row (filB x.2.2 0 17) f 0 sz) one 1)]) 5 one rfl rfl (by omega) (by omega) (by decide) rfl dP_addBlock_26 ?_
  refine j_iconst hg (v := 0) dP_addBlock_27 (by decide) ?_
  refine j_istore hg (lv' := [(5, .int 0), (0, .ref h), (1, .ref rr), (2, .int (nI f)), (3, .int (nI sz)), (4, .int (nI one))]) dP_addBlock_28 (by decide) rfl ?_
  refine j_sub [0, 1, 2, 3, 5, 4] (ws' := [ob h 1 [.ref a1, .ref a2, .ref a3, .ref a4, .ref a5, .ref a6], aL E a1 5 r, aL E a2 5 x.1, aL E a3 5 x.2.1, aB E a6 17 (upd (va_cpy row (filB x.2.2 0 17) f 0 sz) one 1), aB E rr n row]) rfl (by decide) ?_
  show J E 6 g [ob h 1 [.ref a1, .ref a2, .ref a3, .ref a4, .ref a5, .ref a6], aL E a1 5 r, aL E a2 5 x.1, aL E a3 5 x.2.1, aB E a6 17 (blkF x.2.2 row f sz one), aB E rr n row] [(5, .int 0), (0, .ref h), (1, .ref rr), (2, .int (nI f)), (3, .int (nI sz)), (4, .int (nI one))] 0 0 30 []
  refine j_pick [1, 0] (lv' := [(0, .ref h), (5, .int 0)]) rfl ?_
  have loop : ∀ (zk i : Nat), i + zk = 5 → J E 6 g [ob h 1 [.ref a1, .ref a2, .ref a3, .ref a4, .ref a5, .ref a6], aL E a1 5 r, aL E a2 5 (addp (blkF x.2.2 row f sz one) x.1 i), aL E a3 5 x.2.1, aB E a6 17 (blkF x.2.2 row f sz one), aB E rr n row] [(0, .ref h), (5, .int (nI i))] 0 0 30 [] := by
    intro zk
    induction zk with
    | zero =>
      intro i  hi
      obtain rfl : 5 = i := by omega
      have e := abkF_eq r x row f sz one
      unfold abk0 at e
      rw [e] at hR
      refine j_iload hg 1 dP_addBlock_30 rfl ?_
      refine j_iconst hg (v := 5) dP_addBlock_32 (by decide) ?_
      refine j_nge_t hg (tgt := 58) 5 5 rfl rfl (by omega) (by omega) (by omega) dP_addBlock_33 (by decide) ?_
      refine j_aload_n hg 0 dP_addBlock_58 rfl rfl ?_
      refine j_callV hg (n := 0) (y := yP_multiply) (rm := rm_P_multiply) (Ws := (cT yP_multiply cP_multiply 7 none)) (As := []) (rest := []) (wr := [aB E a6 17 (blkF x.2.2 row f sz one), aB E rr n row]) 0 rfl rfl (c_P_multiply l E h a1 a2 a3 a4 a5 a6 (addp (blkF x.2.2 row f sz one) x.1 5) r x.2.1) (gdV m222 m224 ms8 m3 m225) rfl (by decide +kernel) ⟨by decide, by decide⟩ rfl rfl (Nat.le_of_ble_eq_true rfl) ⟨by decide, by decide⟩ [0, 1, 2, 3] [4, 5] rfl rfl (by decide) (by decide) (by decide) dP_addBlock_59 (fun _ _ => ?_)
      show J E 6 g [aB E a6 17 (blkF x.2.2 row f sz one), aB E rr n row, ob h 1 [.ref a1, .ref a2, .ref a3, .ref a4, .ref a5, .ref a6], aL E a1 5 r, aL E a2 5 (mulT (addp (blkF x.2.2 row f sz one) x.1 5) r x.2.1), aL E a3 5 (mulP (addp (blkF x.2.2 row f sz one) x.1 5) r x.2.1 5)] [(0, .ref h), (5, .int 5)] 0 0 62 []
      exact j_vret hg hR () trivial rfl [2, 3, 4, 5, 0, 1] rfl (by decide) (by decide) (by decide) dP_addBlock_62
    | succ zk ih =>
      intro i  hi
      refine j_iload hg 1 dP_addBlock_30 rfl ?_
      refine j_iconst hg (v := 5) dP_addBlock_32 (by decide) ?_
      refine j_nge_f hg (tgt := 58) i 5 rfl rfl (by omega) (by omega) (by omega) dP_addBlock_33 (by decide) ?_
      refine j_aload_n hg 0 dP_addBlock_36 rfl rfl ?_
      refine j_get hg (C := RX1) (T := TX1) (N := 6) inX1 0 rfl rfl 1 (by decide) m39 rfl dP_addBlock_37 ?_
      refine j_iload hg 1 dP_addBlock_40 rfl ?_
      refine j_dup2_11 hg dP_addBlock_42 rfl rfl ?_
      refine j_lald hg (v := (addp (blkF x.2.2 row f sz one) x.1 i) i) 2 i rfl rfl (by omega) (by omega) rfl dP_addBlock_43 ?_
      refine j_aload_n hg 0 dP_addBlock_44 rfl rfl ?_
      refine j_iload hg 1 dP_addBlock_45 rfl ?_
      refine j_callV hg (n := 1) (y := yP_blockPart) (rm := rm_P_blockPart) (Ws := (cT yP_blockPart cP_blockPart 4 (some .long))) (As := [.int (nI i)]) (rest := [.long ((addp (blkF x.2.2 row f sz one) x.1 i) i), .int (nI i), .ref a2]) (wr := [aL E a1 5 r, aL E a2 5 (addp (blkF x.2.2 row f sz one) x.1 i), aL E a3 5 x.2.1, aB E rr n row]) 0 rfl rfl (c_P_blockPart l E h a1 a2 a3 a4 a5 a6 (blkF x.2.2 row f sz one) i (by omega)) (gdV m201 m203 ms6 m3 m204) rfl (by decide +kernel) ⟨by decide, by decide⟩ rfl rfl (Nat.le_of_ble_eq_true rfl) ⟨by decide, by decide⟩ [0, 4] [1, 2, 3, 5] rfl rfl (by decide) (by decide) (by decide) dP_addBlock_47 (fun _ _ => ?_)
      show J E 6 g [aL E a1 5 r, aL E a2 5 (addp (blkF x.2.2 row f sz one) x.1 i), aL E a3 5 x.2.1, aB E rr n row, ob h 1 [.ref a1, .ref a2, .ref a3, .ref a4, .ref a5, .ref a6], aB E a6 17 (blkF x.2.2 row f sz one)] [(0, .ref h), (5, .int (nI i))] 0 0 50 [.long (bpart (blkF x.2.2 row f sz one) i), .long ((addp (blkF x.2.2 row f sz one) x.1 i) i), .int (nI i), .ref a2]
      refine j_ladd hg (v := ((addp (blkF x.2.2 row f sz one) x.1 i) i) + (bpart (blkF x.2.2 row f sz one) i)) dP_addBlock_50 rfl ?_
      refine j_last hg (ws' := [aL E a1 5 r, aL E a2 5 (vp_updL (addp (blkF x.2.2 row f sz one) x.1 i) i (((addp (blkF x.2.2 row f sz one) x.1 i) i) + (bpart (blkF x.2.2 row f sz one) i))), aL E a3 5 x.2.1, aB E rr n row, ob h 1 [.ref a1, .ref a2, .ref a3, .ref a4, .ref a5, .ref a6], aB E a6 17 (blkF x.2.2 row f sz one)]) 1 i rfl rfl (by omega) (by omega) rfl dP_addBlock_51 ?_
      refine j_iinc hg (kq := 1) (v := nI (i + 1)) (lv' := [(5, .int (nI (i + 1))), (0, .ref h)]) dP_addBlock_52 rfl (nI_add i 1) (by decide) rfl ?_
      refine j_goto hg (tgt := 30) dP_addBlock_55 (by decide) ?_
      refine j_sub [4, 0, 1, 2, 5, 3] (ws' := [ob h 1 [.ref a1, .ref a2, .ref a3, .ref a4, .ref a5, .ref a6], aL E a1 5 r, aL E a2 5 (vp_updL (addp (blkF x.2.2 row f sz one) x.1 i) i (((addp (blkF x.2.2 row f sz one) x.1 i) i) + (bpart (blkF x.2.2 row f sz one) i))), aL E a3 5 x.2.1, aB E a6 17 (blkF x.2.2 row f sz one), aB E rr n row]) rfl (by decide) ?_
      refine j_pick [1, 0] (lv' := [(0, .ref h), (5, .int (nI (i + 1)))]) rfl ?_
      exact ih (i + 1) (by omega)
  exact loop (5) 0 (by omega)

def rm_P_add : Room := { frames := 3, cells := 0, slots := 0, locals := 76 }
set_option maxHeartbeats 1000000 in
set_option maxRecDepth 100000 in
theorem c_P_add (l : Launch) (E : Ev) (h a1 a2 a3 a4 a5 a6 : Nat) (rr n : Nat) (r : Nat → Int64) (x : TPB) (row : Nat → Int32) (f m : Nat) (hb : Byt row) (h1 : f + m ≤ n) (h4 : n < 1000000) : MC E l yP_add (cT yP_add cP_add 6 none) rm_P_add [.ref h, .ref rr, .int (nI f), .int (nI m)] [ob h 1 [.ref a1, .ref a2, .ref a3, .ref a4, .ref a5, .ref a6], aL E a1 5 r, aL E a2 5 x.1, aL E a3 5 x.2.1, aB E a6 17 x.2.2, aB E rr n row] Unit (fun _ => True) (fun _ => none) (fun _ => [ob h 1 [.ref a1, .ref a2, .ref a3, .ref a4, .ref a5, .ref a6], aL E a1 5 r, aL E a2 5 ((paddF r x row f m ((m + 15) / 16)).1), aL E a3 5 ((paddF r x row f m ((m + 15) / 16)).2.1), aB E a6 17 ((paddF r x row f m ((m + 15) / 16)).2.2), aB E rr n row]) := by
  refine MC.of (cc := cP_add) (nL := 6) (ret := none) (by decide) rfl cT_in (Nat.le_of_ble_eq_true rfl) (fun g hg hR => ?_)
  show J E 6 g [ob h 1 [.ref a1, .ref a2, .ref a3, .ref a4, .ref a5, .ref a6], aL E a1 5 r, aL E a2 5 x.1, aL E a3 5 x.2.1, aB E a6 17 x.2.2, aB E rr n row] [(0, .ref h), (1, .ref rr), (2, .int (nI f)), (3, .int (nI m))] 0 0 0 []
  refine j_iconst hg (v := 0) dP_add_0 (by decide) ?_
  refine j_istore hg (lv' := [(4, .int 0), (0, .ref h), (1, .ref rr), (2, .int (nI f)), (3, .int (nI m))]) dP_add_1 (by decide) rfl ?_
  refine j_pick [1, 2, 3, 4, 0] (lv' := [(0, .ref h), (1, .ref rr), (2, .int (nI f)), (3, .int (nI m)), (4, .int 0)]) rfl ?_
  have loop : ∀ (zk i : Nat), i + zk = (m + 15) / 16 → J E 6 g [ob h 1 [.ref a1, .ref a2, .ref a3, .ref a4, .ref a5, .ref a6], aL E a1 5 r, aL E a2 5 ((paddF r x row f m i).1), aL E a3 5 ((paddF r x row f m i).2.1), aB E a6 17 ((paddF r x row f m i).2.2), aB E rr n row] [(0, .ref h), (1, .ref rr), (2, .int (nI f)), (3, .int (nI m)), (4, .int (nI (16 * i)))] 0 0 3 [] := by
    intro zk
    induction zk with
    | zero =>
      intro i  hi
      obtain rfl : (m + 15) / 16 = i := by omega
      refine j_iload hg 4 dP_add_3 rfl ?_
      refine j_iload_n hg 3 dP_add_5 rfl rfl ?_
      refine j_nge_t hg (tgt := 39) (16 * ((m + 15) / 16)) m rfl rfl (by omega) (by omega) (by omega) dP_add_6 (by decide) ?_
      exact j_vret hg hR () trivial rfl [0, 1, 2, 3, 4, 5] rfl (by decide) (by decide) (by decide) dP_add_39
    | succ zk ih =>
      intro i  hi
      refine j_iload hg 4 dP_add_3 rfl ?_
      refine j_iload_n hg 3 dP_add_5 rfl rfl ?_
      refine j_nge_f hg (tgt := 39) (16 * i) m rfl rfl (by omega) (by omega) (by omega) dP_add_6 (by decide) ?_
      refine j_bipush hg (v := 16) dP_add_9 (by decide) ?_
      refine j_iload_n hg 3 dP_add_11 rfl rfl ?_
      refine j_iload hg 4 dP_add_12 rfl ?_
      refine j_isub hg (v := nI (m - (16 * i))) dP_add_14 (pk_sub (a := m) (b := 16 * i) (by omega)) ?_
      refine j_mmin hg (v := nI (min 16 (m - (16 * i)))) m212 m213 m7 m214 (Nat.le_of_ble_eq_true rfl) (Nat.le_of_ble_eq_true rfl) (by decide) (by decide) (nmin (by decide) (by omega)) dP_add_15 ?_
      refine j_istore hg (lv' := [(5, .int (nI (min 16 (m - (16 * i))))), (0, .ref h), (1, .ref rr), (2, .int (nI f)), (3, .int (nI m)), (4, .int (nI (16 * i)))]) dP_add_18 (by decide) rfl ?_
      refine j_aload_n hg 1 dP_add_20 rfl rfl ?_
      refine j_aload_n hg 2 dP_add_21 rfl rfl ?_
      refine j_iload_n hg 3 dP_add_22 rfl rfl ?_
      refine j_iload hg 5 dP_add_23 rfl ?_
      refine j_iadd hg (v := nI (f + (16 * i))) dP_add_25 (nI_add f (16 * i)) ?_
      refine j_iload hg 0 dP_add_26 rfl ?_
      refine j_iload hg 0 dP_add_28 rfl ?_
      refine j_callV hg (n := 4) (y := yP_addBlock) (rm := rm_P_addBlock) (Ws := (cT yP_addBlock cP_addBlock 6 none)) (As := [.ref rr, .int (nI (f + (16 * i))), .int (nI (min 16 (m - (16 * i)))), .int (nI (min 16 (m - (16 * i))))]) (rest := []) (wr := []) 0 rfl rfl (c_P_addBlock l E h a1 a2 a3 a4 a5 a6 rr n r ((paddF r x row f m i)) row (f + (16 * i)) (min 16 (m - (16 * i))) (min 16 (m - (16 * i))) hb (by omega) (by omega) (by omega) (by omega)) (gdV m215 m217 ms7 m3 m218) rfl (by decide +kernel) ⟨by decide, by decide⟩ rfl rfl (Nat.le_of_ble_eq_true rfl) ⟨by decide, by decide⟩ [0, 1, 2, 3, 4, 5] [] rfl rfl (by decide) (by decide) (by decide) dP_add_30 (fun _ _ => ?_)
      show J E 6 g [ob h 1 [.ref a1, .ref a2, .ref a3, .ref a4, .ref a5, .ref a6], aL E a1 5 r, aL E a2 5 ((abkF r ((paddF r x row f m i)) row (f + (16 * i)) (min 16 (m - (16 * i))) (min 16 (m - (16 * i)))).1), aL E a3 5 ((abkF r ((paddF r x row f m i)) row (f + (16 * i)) (min 16 (m - (16 * i))) (min 16 (m - (16 * i)))).2.1), aB E a6 17 ((abkF r ((paddF r x row f m i)) row (f + (16 * i)) (min 16 (m - (16 * i))) (min 16 (m - (16 * i)))).2.2), aB E rr n row] [(5, .int (nI (min 16 (m - (16 * i))))), (0, .ref h), (1, .ref rr), (2, .int (nI f)), (3, .int (nI m)), (4, .int (nI (16 * i)))] 0 0 33 []
      refine j_iinc hg (kq := 5) (v := nI (16 * (i + 1))) (lv' := [(4, .int (nI (16 * (i + 1)))), (5, .int (nI (min 16 (m - (16 * i))))), (0, .ref h), (1, .ref rr), (2, .int (nI f)), (3, .int (nI m))]) dP_add_33 rfl (Eq.trans (nI_add (16 * i) 16) (congrArg nI (by omega))) (by decide) rfl ?_
      refine j_goto hg (tgt := 3) dP_add_36 (by decide) ?_
      refine j_pick [2, 3, 4, 5, 0] (lv' := [(0, .ref h), (1, .ref rr), (2, .int (nI f)), (3, .int (nI m)), (4, .int (nI (16 * (i + 1))))]) rfl ?_
      exact ih (i + 1) (by omega)
  exact loop ((m + 15) / 16) 0 (by omega)

def rm_P_addPadded : Room := { frames := 3, cells := 0, slots := 0, locals := 76 }
set_option maxHeartbeats 1000000 in
set_option maxRecDepth 100000 in
theorem c_P_addPadded (l : Launch) (E : Ev) (h a1 a2 a3 a4 a5 a6 : Nat) (rr n : Nat) (r : Nat → Int64) (x : TPB) (row : Nat → Int32) (f m : Nat) (hb : Byt row) (h1 : f + m ≤ n) (h4 : n < 1000000) : MC E l yP_addPadded (cT yP_addPadded cP_addPadded 5 none) rm_P_addPadded [.ref h, .ref rr, .int (nI f), .int (nI m)] [ob h 1 [.ref a1, .ref a2, .ref a3, .ref a4, .ref a5, .ref a6], aL E a1 5 r, aL E a2 5 x.1, aL E a3 5 x.2.1, aB E a6 17 x.2.2, aB E rr n row] Unit (fun _ => True) (fun _ => none) (fun _ => [ob h 1 [.ref a1, .ref a2, .ref a3, .ref a4, .ref a5, .ref a6], aL E a1 5 r, aL E a2 5 ((ppadF r x row f m ((m + 15) / 16)).1), aL E a3 5 ((ppadF r x row f m ((m + 15) / 16)).2.1), aB E a6 17 ((ppadF r x row f m ((m + 15) / 16)).2.2), aB E rr n row]) := by
  refine MC.of (cc := cP_addPadded) (nL := 5) (ret := none) (by decide) rfl cT_in (Nat.le_of_ble_eq_true rfl) (fun g hg hR => ?_)
  show J E 5 g [ob h 1 [.ref a1, .ref a2, .ref a3, .ref a4, .ref a5, .ref a6], aL E a1 5 r, aL E a2 5 x.1, aL E a3 5 x.2.1, aB E a6 17 x.2.2, aB E rr n row] [(0, .ref h), (1, .ref rr), (2, .int (nI f)), (3, .int (nI m))] 0 0 0 []
  refine j_iconst hg (v := 0) dP_addPadded_0 (by decide) ?_
  refine j_istore hg (lv' := [(4, .int 0), (0, .ref h), (1, .ref rr), (2, .int (nI f)), (3, .int (nI m))]) dP_addPadded_1 (by decide) rfl ?_
  refine j_pick [1, 2, 3, 4, 0] (lv' := [(0, .ref h), (1, .ref rr), (2, .int (nI f)), (3, .int (nI m)), (4, .int 0)]) rfl ?_
  have loop : ∀ (zk i : Nat), i + zk = (m + 15) / 16 → J E 5 g [ob h 1 [.ref a1, .ref a2, .ref a3, .ref a4, .ref a5, .ref a6], aL E a1 5 r, aL E a2 5 ((ppadF r x row f m i).1), aL E a3 5 ((ppadF r x row f m i).2.1), aB E a6 17 ((ppadF r x row f m i).2.2), aB E rr n row] [(0, .ref h), (1, .ref rr), (2, .int (nI f)), (3, .int (nI m)), (4, .int (nI (16 * i)))] 0 0 3 [] := by
    intro zk
    induction zk with
    | zero =>
      intro i  hi
      obtain rfl : (m + 15) / 16 = i := by omega
      refine j_iload hg 4 dP_addPadded_3 rfl ?_
      refine j_iload_n hg 3 dP_addPadded_5 rfl rfl ?_
      refine j_nge_t hg (tgt := 35) (16 * ((m + 15) / 16)) m rfl rfl (by omega) (by omega) (by omega) dP_addPadded_6 (by decide) ?_
      exact j_vret hg hR () trivial rfl [0, 1, 2, 3, 4, 5] rfl (by decide) (by decide) (by decide) dP_addPadded_35
    | succ zk ih =>
      intro i  hi
      refine j_iload hg 4 dP_addPadded_3 rfl ?_
      refine j_iload_n hg 3 dP_addPadded_5 rfl rfl ?_
      refine j_nge_f hg (tgt := 35) (16 * i) m rfl rfl (by omega) (by omega) (by omega) dP_addPadded_6 (by decide) ?_
      refine j_aload_n hg 0 dP_addPadded_9 rfl rfl ?_
      refine j_aload_n hg 1 dP_addPadded_10 rfl rfl ?_
      refine j_iload_n hg 2 dP_addPadded_11 rfl rfl ?_
      refine j_iload hg 4 dP_addPadded_12 rfl ?_
      refine j_iadd hg (v := nI (f + (16 * i))) dP_addPadded_14 (nI_add f (16 * i)) ?_
      refine j_bipush hg (v := 16) dP_addPadded_15 (by decide) ?_
      refine j_iload_n hg 3 dP_addPadded_17 rfl rfl ?_
      refine j_iload hg 4 dP_addPadded_18 rfl ?_
      refine j_isub hg (v := nI (m - (16 * i))) dP_addPadded_20 (pk_sub (a := m) (b := 16 * i) (by omega)) ?_
      refine j_mmin hg (v := nI (min 16 (m - (16 * i)))) m212 m213 m7 m214 (Nat.le_of_ble_eq_true rfl) (Nat.le_of_ble_eq_true rfl) (by decide) (by decide) (nmin (by decide) (by omega)) dP_addPadded_21 ?_
      refine j_bipush hg (v := 16) dP_addPadded_24 (by decide) ?_
      refine j_callV hg (n := 4) (y := yP_addBlock) (rm := rm_P_addBlock) (Ws := (cT yP_addBlock cP_addBlock 6 none)) (As := [.ref rr, .int (nI (f + (16 * i))), .int (nI (min 16 (m - (16 * i)))), .int 16]) (rest := []) (wr := []) 0 rfl rfl (c_P_addBlock l E h a1 a2 a3 a4 a5 a6 rr n r ((ppadF r x row f m i)) row (f + (16 * i)) (min 16 (m - (16 * i))) 16 hb (by omega) (by omega) (by omega) (by omega)) (gdV m215 m217 ms7 m3 m218) rfl (by decide +kernel) ⟨by decide, by decide⟩ rfl rfl (Nat.le_of_ble_eq_true rfl) ⟨by decide, by decide⟩ [0, 1, 2, 3, 4, 5] [] rfl rfl (by decide) (by decide) (by decide) dP_addPadded_26 (fun _ _ => ?_)
      show J E 5 g [ob h 1 [.ref a1, .ref a2, .ref a3, .ref a4, .ref a5, .ref a6], aL E a1 5 r, aL E a2 5 ((abkF r ((ppadF r x row f m i)) row (f + (16 * i)) (min 16 (m - (16 * i))) 16).1), aL E a3 5 ((abkF r ((ppadF r x row f m i)) row (f + (16 * i)) (min 16 (m - (16 * i))) 16).2.1), aB E a6 17 ((abkF r ((ppadF r x row f m i)) row (f + (16 * i)) (min 16 (m - (16 * i))) 16).2.2), aB E rr n row] [(0, .ref h), (1, .ref rr), (2, .int (nI f)), (3, .int (nI m)), (4, .int (nI (16 * i)))] 0 0 29 []
      refine j_iinc hg (kq := 4) (v := nI (16 * (i + 1))) (lv' := [(4, .int (nI (16 * (i + 1)))), (0, .ref h), (1, .ref rr), (2, .int (nI f)), (3, .int (nI m))]) dP_addPadded_29 rfl (Eq.trans (nI_add (16 * i) 16) (congrArg nI (by omega))) (by decide) rfl ?_
      refine j_goto hg (tgt := 3) dP_addPadded_32 (by decide) ?_
      refine j_pick [1, 2, 3, 4, 0] (lv' := [(0, .ref h), (1, .ref rr), (2, .int (nI f)), (3, .int (nI m)), (4, .int (nI (16 * (i + 1))))]) rfl ?_
      exact ih (i + 1) (by omega)
  exact loop ((m + 15) / 16) 0 (by omega)

def kblk (b key : Nat → Int32) : Nat → Int32 := clampF (upd (va_cpy key b 0 0 16) 16 0)

def rm_P_start : Room := { frames := 2, cells := 0, slots := 0, locals := 44 }
set_option maxHeartbeats 1000000 in
set_option maxRecDepth 100000 in
theorem c_P_start (l : Launch) (E : Ev) (h a1 a2 a3 a4 a5 a6 : Nat) (rr n : Nat) (fa t : Nat → Int64) (la b key : Nat → Int32) (hb : Byt key) (h1 : 32 ≤ n) (h4 : n < 2147483648) : MC E l yP_start (cT yP_start cP_start 3 none) rm_P_start [.ref h, .ref rr] [ob h 1 [.ref a1, .ref a2, .ref a3, .ref a4, .ref a5, .ref a6], aL E a1 5 fa, aL E a2 5 t, aI E a5 4 la, aB E a6 17 b, aB E rr n key] Unit (fun _ => True) (fun _ => none) (fun _ => [ob h 1 [.ref a1, .ref a2, .ref a3, .ref a4, .ref a5, .ref a6], aL E a1 5 (parts5 (kblk b key) fa 5), aL E a2 5 (zeros5 t 5), aI E a5 4 (last4 key la 4), aB E a6 17 (kblk b key), aB E rr n key]) := by
  refine MC.of (cc := cP_start) (nL := 3) (ret := none) (by decide) rfl cT_in (Nat.le_of_ble_eq_true rfl) (fun g hg hR => ?_)
  show J E 3 g [ob h 1 [.ref a1, .ref a2, .ref a3, .ref a4, .ref a5, .ref a6], aL E a1 5 fa, aL E a2 5 t, aI E a5 4 la, aB E a6 17 b, aB E rr n key] [(0, .ref h), (1, .ref rr)] 0 0 0 []
  refine j_aload_n hg 1 dP_start_0 rfl rfl ?_
  refine j_iconst hg (v := 0) dP_start_1 (by decide) ?_
  refine j_aload_n hg 0 dP_start_2 rfl rfl ?_
  refine j_get hg (C := RX1) (T := TX1) (N := 6) inX1 0 rfl rfl 5 (by decide) m43 rfl dP_start_3 ?_
  refine j_iconst hg (v := 0) dP_start_6 (by decide) ?_
  refine j_bipush hg (v := 16) dP_start_7 (by decide) ?_
  refine j_copyB hg (ws' := [ob h 1 [.ref a1, .ref a2, .ref a3, .ref a4, .ref a5, .ref a6], aL E a1 5 fa, aL E a2 5 t, aI E a5 4 la, aB E a6 17 (va_cpy key b 0 0 16), aB E rr n key]) 5 4 0 0 16 ⟨m196, m141, m140, m6⟩ rfl rfl rfl rfl rfl (by omega) (by omega) (by omega) (by omega) (fun t _ => hb _) (Nat.le_of_ble_eq_true rfl) (Nat.le_of_ble_eq_true rfl) rfl dP_start_9 ?_
  refine j_aload_n hg 0 dP_start_12 rfl rfl ?_
  refine j_get hg (C := RX1) (T := TX1) (N := 6) inX1 0 rfl rfl 5 (by decide) m43 rfl dP_start_13 ?_
  refine j_bipush hg (v := 16) dP_start_16 (by decide) ?_
  refine j_iconst hg (v := 0) dP_start_18 (by decide) ?_
  refine j_bast hg (ws' := [ob h 1 [.ref a1, .ref a2, .ref a3, .ref a4, .ref a5, .ref a6], aL E a1 5 fa, aL E a2 5 t, aI E a5 4 la, aB E a6 17 (upd (va_cpy key b 0 0 16) 16 0), aB E rr n key]) 4 16 rfl rfl (by omega) (by omega) (by decide) rfl dP_start_19 ?_
  refine j_aload_n hg 0 dP_start_20 rfl rfl ?_
  refine j_callV hg (n := 0) (y := yP_clampBlock) (rm := rm_P_clampBlock) (Ws := (cT yP_clampBlock cP_clampBlock 2 none)) (As := []) (rest := []) (wr := [aL E a1 5 fa, aL E a2 5 t, aI E a5 4 la, aB E rr n key]) 0 rfl rfl (c_P_clampBlock l E h a1 a2 a3 a4 a5 a6 (upd (va_cpy key b 0 0 16) 16 0)) (gdV m197 m199 ms5 m3 m200) rfl (by decide +kernel) ⟨by decide, by decide⟩ rfl rfl (Nat.le_of_ble_eq_true rfl) ⟨by decide, by decide⟩ [0, 4] [1, 2, 3, 5] rfl rfl (by decide) (by decide) (by decide) dP_start_21 (fun _ _ => ?_)
  show J E 3 g [aL E a1 5 fa, aL E a2 5 t, aI E a5 4 la, aB E rr n key, ob h 1 [.ref a1, .ref a2, .ref a3, .ref a4, .ref a5, .ref a6], aB E a6 17 (clampF (upd (va_cpy key b 0 0 16) 16 0))] [(0, .ref h), (1, .ref rr)] 0 0 24 []
  refine j_iconst hg (v := 0) dP_start_24 (by decide) ?_
  refine j_istore_n hg (lv' := [(2, .int 0), (0, .ref h), (1, .ref rr)]) dP_start_25 rfl (by decide) rfl ?_
  refine j_sub [4, 0, 1, 2, 5, 3] (ws' := [ob h 1 [.ref a1, .ref a2, .ref a3, .ref a4, .ref a5, .ref a6], aL E a1 5 fa, aL E a2 5 t, aI E a5 4 la, aB E a6 17 (clampF (upd (va_cpy key b 0 0 16) 16 0)), aB E rr n key]) rfl (by decide) ?_
  show J E 3 g [ob h 1 [.ref a1, .ref a2, .ref a3, .ref a4, .ref a5, .ref a6], aL E a1 5 fa, aL E a2 5 t, aI E a5 4 la, aB E a6 17 (kblk b key), aB E rr n key] [(2, .int 0), (0, .ref h), (1, .ref rr)] 0 0 26 []
  refine j_pick [1, 2, 0] (lv' := [(0, .ref h), (1, .ref rr), (2, .int 0)]) rfl ?_
  have loop : ∀ (zk i : Nat), i + zk = 5 → J E 3 g [ob h 1 [.ref a1, .ref a2, .ref a3, .ref a4, .ref a5, .ref a6], aL E a1 5 (parts5 (kblk b key) fa i), aL E a2 5 (zeros5 t i), aI E a5 4 la, aB E a6 17 (kblk b key), aB E rr n key] [(0, .ref h), (1, .ref rr), (2, .int (nI i))] 0 0 26 [] := by
    intro zk
    induction zk with
    | zero =>
      intro i  hi
      obtain rfl : 5 = i := by omega
      refine j_iload_n hg 2 dP_start_26 rfl rfl ?_
      refine j_iconst hg (v := 5) dP_start_27 (by decide) ?_
      refine j_nge_t hg (tgt := 55) 5 5 rfl rfl (by omega) (by omega) (by omega) dP_start_28 (by decide) ?_
      refine j_iconst hg (v := 0) dP_start_55 (by decide) ?_
      refine j_istore_n hg (lv' := [(2, .int 0), (0, .ref h), (1, .ref rr)]) dP_start_56 rfl (by decide) rfl ?_
      refine j_pick [1, 2, 0] (lv' := [(0, .ref h), (1, .ref rr), (2, .int 0)]) rfl ?_
      have loop2 : ∀ (zk i : Nat), i + zk = 4 → J E 3 g [ob h 1 [.ref a1, .ref a2, .ref a3, .ref a4, .ref a5, .ref a6], aL E a1 5 (parts5 (kblk b key) fa 5), aL E a2 5 (zeros5 t 5), aI E a5 4 (last4 key la i), aB E a6 17 (kblk b key), aB E rr n key] [(0, .ref h), (1, .ref rr), (2, .int (nI i))] 0 0 57 [] := by
        intro zk
        induction zk with
        | zero =>
          intro i  hi
          obtain rfl : 4 = i := by omega
          refine j_iload_n hg 2 dP_start_57 rfl rfl ?_
          refine j_iconst hg (v := 4) dP_start_58 (by decide) ?_
          refine j_nge_t hg (tgt := 84) 4 4 rfl rfl (by omega) (by omega) (by omega) dP_start_59 (by decide) ?_
          exact j_vret hg hR () trivial rfl [0, 1, 2, 3, 4, 5] rfl (by decide) (by decide) (by decide) dP_start_84
        | succ zk ih =>
          intro i  hi
          refine j_iload_n hg 2 dP_start_57 rfl rfl ?_
          refine j_iconst hg (v := 4) dP_start_58 (by decide) ?_
          refine j_nge_f hg (tgt := 84) i 4 rfl rfl (by omega) (by omega) (by omega) dP_start_59 (by decide) ?_
          refine j_aload_n hg 0 dP_start_62 rfl rfl ?_
          refine j_get hg (C := RX1) (T := TX1) (N := 6) inX1 0 rfl rfl 4 (by decide) m42 rfl dP_start_63 ?_
          refine j_iload_n hg 2 dP_start_66 rfl rfl ?_
          refine j_aload_n hg 1 dP_start_67 rfl rfl ?_
          refine j_bipush hg (v := 16) dP_start_68 (by decide) ?_
          refine j_iconst hg (v := 4) dP_start_70 (by decide) ?_
          refine j_iload_n hg 2 dP_start_71 rfl rfl ?_
          refine j_imul hg (v := nI (4 * i)) dP_start_72 (pk_mul 4 i) ?_
          refine j_iadd hg (v := nI (16 + (4 * i))) dP_start_73 (nI_add 16 (4 * i)) ?_
          refine j_callSN hg (n := 2) (y := yS_readLowestFirst) (rm := rm_S_readLowestFirst) (Ws := (cT yS_readLowestFirst cS_readLowestFirst 2 (some .int))) (As := [.ref rr, .int (nI (16 + (4 * i)))]) (rest := [.int (nI i), .ref a5]) (wr := [ob h 1 [.ref a1, .ref a2, .ref a3, .ref a4, .ref a5, .ref a6], aL E a1 5 (parts5 (kblk b key) fa 5), aL E a2 5 (zeros5 t 5), aI E a5 4 (last4 key la i), aB E a6 17 (kblk b key)]) (host := RX3) (c_S_readLowestFirst l E rr n key (16 + (4 * i)) (by omega) (by omega)) (gdT m168) rfl m1 (by decide +kernel) m167 (by decide +kernel) ⟨by decide, by decide⟩ rfl rfl (Nat.le_of_ble_eq_true rfl) ⟨by decide, by decide⟩ [5] [0, 1, 2, 3, 4] rfl rfl (by decide) (by decide) (by decide) dP_start_74 (fun _ _ => ?_)
          show J E 3 g [ob h 1 [.ref a1, .ref a2, .ref a3, .ref a4, .ref a5, .ref a6], aL E a1 5 (parts5 (kblk b key) fa 5), aL E a2 5 (zeros5 t 5), aI E a5 4 (last4 key la i), aB E a6 17 (kblk b key), aB E rr n key] [(0, .ref h), (1, .ref rr), (2, .int (nI i))] 0 0 77 [.int (rl key (16 + (4 * i))), .int (nI i), .ref a5]
          refine j_iast hg (ws' := [ob h 1 [.ref a1, .ref a2, .ref a3, .ref a4, .ref a5, .ref a6], aL E a1 5 (parts5 (kblk b key) fa 5), aL E a2 5 (zeros5 t 5), aI E a5 4 (upd (last4 key la i) i (rl key (16 + (4 * i)))), aB E a6 17 (kblk b key), aB E rr n key]) 3 i rfl rfl (by omega) (by omega) rfl dP_start_77 ?_
          refine j_iinc hg (kq := 2) (v := nI (i + 1)) (lv' := [(2, .int (nI (i + 1))), (0, .ref h), (1, .ref rr)]) dP_start_78 rfl (nI_add i 1) (by decide) rfl ?_
          refine j_goto hg (tgt := 57) dP_start_81 (by decide) ?_
          refine j_pick [1, 2, 0] (lv' := [(0, .ref h), (1, .ref rr), (2, .int (nI (i + 1)))]) rfl ?_
          exact ih (i + 1) (by omega)
      exact loop2 (4) 0 (by omega)
    | succ zk ih =>
      intro i  hi
      refine j_iload_n hg 2 dP_start_26 rfl rfl ?_
      refine j_iconst hg (v := 5) dP_start_27 (by decide) ?_
      refine j_nge_f hg (tgt := 55) i 5 rfl rfl (by omega) (by omega) (by omega) dP_start_28 (by decide) ?_
      refine j_aload_n hg 0 dP_start_31 rfl rfl ?_
      refine j_get hg (C := RX1) (T := TX1) (N := 6) inX1 0 rfl rfl 0 (by decide) m38 rfl dP_start_32 ?_
      refine j_iload_n hg 2 dP_start_35 rfl rfl ?_
      refine j_aload_n hg 0 dP_start_36 rfl rfl ?_
      refine j_iload_n hg 2 dP_start_37 rfl rfl ?_
      refine j_callV hg (n := 1) (y := yP_blockPart) (rm := rm_P_blockPart) (Ws := (cT yP_blockPart cP_blockPart 4 (some .long))) (As := [.int (nI i)]) (rest := [.int (nI i), .ref a1]) (wr := [aL E a1 5 (parts5 (kblk b key) fa i), aL E a2 5 (zeros5 t i), aI E a5 4 la, aB E rr n key]) 0 rfl rfl (c_P_blockPart l E h a1 a2 a3 a4 a5 a6 (kblk b key) i (by omega)) (gdV m201 m203 ms6 m3 m204) rfl (by decide +kernel) ⟨by decide, by decide⟩ rfl rfl (Nat.le_of_ble_eq_true rfl) ⟨by decide, by decide⟩ [0, 4] [1, 2, 3, 5] rfl rfl (by decide) (by decide) (by decide) dP_start_38 (fun _ _ => ?_)
      show J E 3 g [aL E a1 5 (parts5 (kblk b key) fa i), aL E a2 5 (zeros5 t i), aI E a5 4 la, aB E rr n key, ob h 1 [.ref a1, .ref a2, .ref a3, .ref a4, .ref a5, .ref a6], aB E a6 17 (kblk b key)] [(0, .ref h), (1, .ref rr), (2, .int (nI i))] 0 0 41 [.long (bpart (kblk b key) i), .int (nI i), .ref a1]
      refine j_last hg (ws' := [aL E a1 5 (vp_updL (parts5 (kblk b key) fa i) i (bpart (kblk b key) i)), aL E a2 5 (zeros5 t i), aI E a5 4 la, aB E rr n key, ob h 1 [.ref a1, .ref a2, .ref a3, .ref a4, .ref a5, .ref a6], aB E a6 17 (kblk b key)]) 0 i rfl rfl (by omega) (by omega) rfl dP_start_41 ?_
      refine j_aload_n hg 0 dP_start_42 rfl rfl ?_
      refine j_get hg (C := RX1) (T := TX1) (N := 6) inX1 4 rfl rfl 1 (by decide) m39 rfl dP_start_43 ?_
      refine j_iload_n hg 2 dP_start_46 rfl rfl ?_
      refine j_lconst hg (v := 0) dP_start_47 (by decide) ?_
      refine j_last hg (ws' := [aL E a1 5 (vp_updL (parts5 (kblk b key) fa i) i (bpart (kblk b key) i)), aL E a2 5 (vp_updL (zeros5 t i) i 0), aI E a5 4 la, aB E rr n key, ob h 1 [.ref a1, .ref a2, .ref a3, .ref a4, .ref a5, .ref a6], aB E a6 17 (kblk b key)]) 1 i rfl rfl (by omega) (by omega) rfl dP_start_48 ?_
      refine j_iinc hg (kq := 2) (v := nI (i + 1)) (lv' := [(2, .int (nI (i + 1))), (0, .ref h), (1, .ref rr)]) dP_start_49 rfl (nI_add i 1) (by decide) rfl ?_
      refine j_goto hg (tgt := 26) dP_start_52 (by decide) ?_
      refine j_sub [4, 0, 1, 2, 5, 3] (ws' := [ob h 1 [.ref a1, .ref a2, .ref a3, .ref a4, .ref a5, .ref a6], aL E a1 5 (vp_updL (parts5 (kblk b key) fa i) i (bpart (kblk b key) i)), aL E a2 5 (vp_updL (zeros5 t i) i 0), aI E a5 4 la, aB E a6 17 (kblk b key), aB E rr n key]) rfl (by decide) ?_
      refine j_pick [1, 2, 0] (lv' := [(0, .ref h), (1, .ref rr), (2, .int (nI (i + 1)))]) rfl ?_
      exact ih (i + 1) (by omega)
  exact loop (5) 0 (by omega)

def rm_P_finish : Room := { frames := 2, cells := 0, slots := 0, locals := 43 }
set_option maxHeartbeats 1000000 in
set_option maxRecDepth 100000 in
theorem c_P_finish (l : Launch) (E : Ev) (h a1 a2 a3 a4 a5 a6 : Nat) (rr n : Nat) (t p wo : Nat → Int64) (la row : Nat → Int32) (k : Nat) (h1 : k + 16 ≤ n) (h4 : n < 2147483648) : MC E l yP_finish (cT yP_finish cP_finish 6 none) rm_P_finish [.ref h, .ref rr, .int (nI k)] [ob h 1 [.ref a1, .ref a2, .ref a3, .ref a4, .ref a5, .ref a6], aL E a2 5 t, aL E a3 5 p, aL E a4 4 wo, aI E a5 4 la, aB E rr n row] Unit (fun _ => True) (fun _ => none) (fun _ => [ob h 1 [.ref a1, .ref a2, .ref a3, .ref a4, .ref a5, .ref a6], aL E a2 5 (finT t p), aL E a3 5 (tpP (car t) p 5), aL E a4 4 (words4 (finT t p) wo), aI E a5 4 la, aB E rr n ((foS (words4 (finT t p) wo) la row k 4).2)]) := by
  refine MC.of (cc := cP_finish) (nL := 6) (ret := none) (by decide) rfl cT_in (Nat.le_of_ble_eq_true rfl) (fun g hg hR => ?_)
  show J E 6 g [ob h 1 [.ref a1, .ref a2, .ref a3, .ref a4, .ref a5, .ref a6], aL E a2 5 t, aL E a3 5 p, aL E a4 4 wo, aI E a5 4 la, aB E rr n row] [(0, .ref h), (1, .ref rr), (2, .int (nI k))] 0 0 0 []
  refine j_aload_n hg 0 dP_finish_0 rfl rfl ?_
  refine j_callV hg (n := 0) (y := yP_carry) (rm := rm_P_carry) (Ws := (cT yP_carry cP_carry 6 none)) (As := []) (rest := []) (wr := [aL E a3 5 p, aL E a4 4 wo, aI E a5 4 la, aB E rr n row]) 0 rfl rfl (c_P_carry l E h a1 a2 a3 a4 a5 a6 t) (gdV m227 m229 ms9 m3 m230) rfl (by decide +kernel) ⟨by decide, by decide⟩ rfl rfl (Nat.le_of_ble_eq_true rfl) ⟨by decide, by decide⟩ [0, 1] [2, 3, 4, 5] rfl rfl (by decide) (by decide) (by decide) dP_finish_1 (fun _ _ => ?_)
  show J E 6 g [aL E a3 5 p, aL E a4 4 wo, aI E a5 4 la, aB E rr n row, ob h 1 [.ref a1, .ref a2, .ref a3, .ref a4, .ref a5, .ref a6], aL E a2 5 (car t)] [(0, .ref h), (1, .ref rr), (2, .int (nI k))] 0 0 4 []
  refine j_aload_n hg 0 dP_finish_4 rfl rfl ?_
  refine j_callV hg (n := 0) (y := yP_takePrimeOff) (rm := rm_P_takePrimeOff) (Ws := (cT yP_takePrimeOff cP_takePrimeOff 6 none)) (As := []) (rest := []) (wr := [aL E a4 4 wo, aI E a5 4 la, aB E rr n row]) 0 rfl rfl (c_P_takePrimeOff l E h a1 a2 a3 a4 a5 a6 (car t) p) (gdV m235 m237 ms10 m3 m238) rfl (by decide +kernel) ⟨by decide, by decide⟩ rfl rfl (Nat.le_of_ble_eq_true rfl) ⟨by decide, by decide⟩ [4, 5, 0] [1, 2, 3] rfl rfl (by decide) (by decide) (by decide) dP_finish_5 (fun _ _ => ?_)
  show J E 6 g [aL E a4 4 wo, aI E a5 4 la, aB E rr n row, ob h 1 [.ref a1, .ref a2, .ref a3, .ref a4, .ref a5, .ref a6], aL E a2 5 (tpT (car t) p), aL E a3 5 (tpP (car t) p 5)] [(0, .ref h), (1, .ref rr), (2, .int (nI k))] 0 0 8 []
  refine j_aload_n hg 0 dP_finish_8 rfl rfl ?_
  refine j_get hg (C := RX1) (T := TX1) (N := 6) inX1 3 rfl rfl 3 (by decide) m41 rfl dP_finish_9 ?_
  refine j_iconst hg (v := 0) dP_finish_12 (by decide) ?_
  refine j_aload_n hg 0 dP_finish_13 rfl rfl ?_
  refine j_get hg (C := RX1) (T := TX1) (N := 6) inX1 3 rfl rfl 1 (by decide) m39 rfl dP_finish_14 ?_
  refine j_iconst hg (v := 0) dP_finish_17 (by decide) ?_
  refine j_lald hg (v := (tpT (car t) p) 0) 4 0 rfl rfl (by omega) (by omega) rfl dP_finish_18 ?_
  refine j_aload_n hg 0 dP_finish_19 rfl rfl ?_
  refine j_get hg (C := RX1) (T := TX1) (N := 6) inX1 3 rfl rfl 1 (by decide) m39 rfl dP_finish_20 ?_
  refine j_iconst hg (v := 1) dP_finish_23 (by decide) ?_
  refine j_lald hg (v := (tpT (car t) p) 1) 4 1 rfl rfl (by omega) (by omega) rfl dP_finish_24 ?_
  refine j_bipush hg (v := 26) dP_finish_25 (by decide) ?_
  refine j_lshl hg (v := lshl ((tpT (car t) p) 1) 26) dP_finish_27 rfl ?_
  refine j_lor hg (v := ((tpT (car t) p) 0) ||| (lshl ((tpT (car t) p) 1) 26)) dP_finish_28 rfl ?_
  refine j_last hg (ws' := [aL E a4 4 (vp_updL wo 0 (((tpT (car t) p) 0) ||| (lshl ((tpT (car t) p) 1) 26))), aI E a5 4 la, aB E rr n row, ob h 1 [.ref a1, .ref a2, .ref a3, .ref a4, .ref a5, .ref a6], aL E a2 5 (tpT (car t) p), aL E a3 5 (tpP (car t) p 5)]) 0 0 rfl rfl (by omega) (by omega) rfl dP_finish_29 ?_
  refine j_aload_n hg 0 dP_finish_30 rfl rfl ?_
  refine j_get hg (C := RX1) (T := TX1) (N := 6) inX1 3 rfl rfl 3 (by decide) m41 rfl dP_finish_31 ?_
  refine j_iconst hg (v := 1) dP_finish_34 (by decide) ?_
  refine j_aload_n hg 0 dP_finish_35 rfl rfl ?_
  refine j_get hg (C := RX1) (T := TX1) (N := 6) inX1 3 rfl rfl 1 (by decide) m39 rfl dP_finish_36 ?_
  refine j_iconst hg (v := 1) dP_finish_39 (by decide) ?_
  refine j_lald hg (v := (tpT (car t) p) 1) 4 1 rfl rfl (by omega) (by omega) rfl dP_finish_40 ?_
  refine j_bipush hg (v := 6) dP_finish_41 (by decide) ?_
  refine j_lushr hg (v := lushr ((tpT (car t) p) 1) 6) dP_finish_43 rfl ?_
  refine j_aload_n hg 0 dP_finish_44 rfl rfl ?_
  refine j_get hg (C := RX1) (T := TX1) (N := 6) inX1 3 rfl rfl 1 (by decide) m39 rfl dP_finish_45 ?_
  refine j_iconst hg (v := 2) dP_finish_48 (by decide) ?_
  refine j_lald hg (v := (tpT (car t) p) 2) 4 2 rfl rfl (by omega) (by omega) rfl dP_finish_49 ?_
  refine j_bipush hg (v := 20) dP_finish_50 (by decide) ?_
  refine j_lshl hg (v := lshl ((tpT (car t) p) 2) 20) dP_finish_52 rfl ?_
  refine j_lor hg (v := (lushr ((tpT (car t) p) 1) 6) ||| (lshl ((tpT (car t) p) 2) 20)) dP_finish_53 rfl ?_
  refine j_last hg (ws' := [aL E a4 4 (vp_updL (vp_updL wo 0 (((tpT (car t) p) 0) ||| (lshl ((tpT (car t) p) 1) 26))) 1 ((lushr ((tpT (car t) p) 1) 6) ||| (lshl ((tpT (car t) p) 2) 20))), aI E a5 4 la, aB E rr n row, ob h 1 [.ref a1, .ref a2, .ref a3, .ref a4, .ref a5, .ref a6], aL E a2 5 (tpT (car t) p), aL E a3 5 (tpP (car t) p 5)]) 0 1 rfl rfl (by omega) (by omega) rfl dP_finish_54 ?_
  refine j_aload_n hg 0 dP_finish_55 rfl rfl ?_
  refine j_get hg (C := RX1) (T := TX1) (N := 6) inX1 3 rfl rfl 3 (by decide) m41 rfl dP_finish_56 ?_
  refine j_iconst hg (v := 2) dP_finish_59 (by decide) ?_
  refine j_aload_n hg 0 dP_finish_60 rfl rfl ?_
  refine j_get hg (C := RX1) (T := TX1) (N := 6) inX1 3 rfl rfl 1 (by decide) m39 rfl dP_finish_61 ?_
  refine j_iconst hg (v := 2) dP_finish_64 (by decide) ?_
  refine j_lald hg (v := (tpT (car t) p) 2) 4 2 rfl rfl (by omega) (by omega) rfl dP_finish_65 ?_
  refine j_bipush hg (v := 12) dP_finish_66 (by decide) ?_
  refine j_lushr hg (v := lushr ((tpT (car t) p) 2) 12) dP_finish_68 rfl ?_
  refine j_aload_n hg 0 dP_finish_69 rfl rfl ?_
  refine j_get hg (C := RX1) (T := TX1) (N := 6) inX1 3 rfl rfl 1 (by decide) m39 rfl dP_finish_70 ?_
  refine j_iconst hg (v := 3) dP_finish_73 (by decide) ?_
  refine j_lald hg (v := (tpT (car t) p) 3) 4 3 rfl rfl (by omega) (by omega) rfl dP_finish_74 ?_
  refine j_bipush hg (v := 14) dP_finish_75 (by decide) ?_
  refine j_lshl hg (v := lshl ((tpT (car t) p) 3) 14) dP_finish_77 rfl ?_
  refine j_lor hg (v := (lushr ((tpT (car t) p) 2) 12) ||| (lshl ((tpT (car t) p) 3) 14)) dP_finish_78 rfl ?_
  refine j_last hg (ws' := [aL E a4 4 (vp_updL (vp_updL (vp_updL wo 0 (((tpT (car t) p) 0) ||| (lshl ((tpT (car t) p) 1) 26))) 1 ((lushr ((tpT (car t) p) 1) 6) ||| (lshl ((tpT (car t) p) 2) 20))) 2 ((lushr ((tpT (car t) p) 2) 12) ||| (lshl ((tpT (car t) p) 3) 14))), aI E a5 4 la, aB E rr n row, ob h 1 [.ref a1, .ref a2, .ref a3, .ref a4, .ref a5, .ref a6], aL E a2 5 (tpT (car t) p), aL E a3 5 (tpP (car t) p 5)]) 0 2 rfl rfl (by omega) (by omega) rfl dP_finish_79 ?_
  refine j_aload_n hg 0 dP_finish_80 rfl rfl ?_
  refine j_get hg (C := RX1) (T := TX1) (N := 6) inX1 3 rfl rfl 3 (by decide) m41 rfl dP_finish_81 ?_
  refine j_iconst hg (v := 3) dP_finish_84 (by decide) ?_
  refine j_aload_n hg 0 dP_finish_85 rfl rfl ?_
  refine j_get hg (C := RX1) (T := TX1) (N := 6) inX1 3 rfl rfl 1 (by decide) m39 rfl dP_finish_86 ?_
  refine j_iconst hg (v := 3) dP_finish_89 (by decide) ?_
  refine j_lald hg (v := (tpT (car t) p) 3) 4 3 rfl rfl (by omega) (by omega) rfl dP_finish_90 ?_
  refine j_bipush hg (v := 18) dP_finish_91 (by decide) ?_
  refine j_lushr hg (v := lushr ((tpT (car t) p) 3) 18) dP_finish_93 rfl ?_
  refine j_aload_n hg 0 dP_finish_94 rfl rfl ?_
  refine j_get hg (C := RX1) (T := TX1) (N := 6) inX1 3 rfl rfl 1 (by decide) m39 rfl dP_finish_95 ?_
  refine j_iconst hg (v := 4) dP_finish_98 (by decide) ?_
  refine j_lald hg (v := (tpT (car t) p) 4) 4 4 rfl rfl (by omega) (by omega) rfl dP_finish_99 ?_
  refine j_bipush hg (v := 8) dP_finish_100 (by decide) ?_
  refine j_lshl hg (v := lshl ((tpT (car t) p) 4) 8) dP_finish_102 rfl ?_
  refine j_lor hg (v := (lushr ((tpT (car t) p) 3) 18) ||| (lshl ((tpT (car t) p) 4) 8)) dP_finish_103 rfl ?_
  refine j_last hg (ws' := [aL E a4 4 (vp_updL (vp_updL (vp_updL (vp_updL wo 0 (((tpT (car t) p) 0) ||| (lshl ((tpT (car t) p) 1) 26))) 1 ((lushr ((tpT (car t) p) 1) 6) ||| (lshl ((tpT (car t) p) 2) 20))) 2 ((lushr ((tpT (car t) p) 2) 12) ||| (lshl ((tpT (car t) p) 3) 14))) 3 ((lushr ((tpT (car t) p) 3) 18) ||| (lshl ((tpT (car t) p) 4) 8))), aI E a5 4 la, aB E rr n row, ob h 1 [.ref a1, .ref a2, .ref a3, .ref a4, .ref a5, .ref a6], aL E a2 5 (tpT (car t) p), aL E a3 5 (tpP (car t) p 5)]) 0 3 rfl rfl (by omega) (by omega) rfl dP_finish_104 ?_
  refine j_lconst hg (v := 0) dP_finish_105 (by decide) ?_
  refine j_lstore_n hg (lv' := [(3, .long 0), (0, .ref h), (1, .ref rr), (2, .int (nI k))]) dP_finish_106 rfl (by decide) rfl ?_
  refine j_iconst hg (v := 0) dP_finish_107 (by decide) ?_
  refine j_istore hg (lv' := [(5, .int 0), (3, .long 0), (0, .ref h), (1, .ref rr), (2, .int (nI k))]) dP_finish_108 (by decide) rfl ?_
  refine j_sub [3, 4, 5, 0, 1, 2] (ws' := [ob h 1 [.ref a1, .ref a2, .ref a3, .ref a4, .ref a5, .ref a6], aL E a2 5 (tpT (car t) p), aL E a3 5 (tpP (car t) p 5), aL E a4 4 (vp_updL (vp_updL (vp_updL (vp_updL wo 0 (((tpT (car t) p) 0) ||| (lshl ((tpT (car t) p) 1) 26))) 1 ((lushr ((tpT (car t) p) 1) 6) ||| (lshl ((tpT (car t) p) 2) 20))) 2 ((lushr ((tpT (car t) p) 2) 12) ||| (lshl ((tpT (car t) p) 3) 14))) 3 ((lushr ((tpT (car t) p) 3) 18) ||| (lshl ((tpT (car t) p) 4) 8))), aI E a5 4 la, aB E rr n row]) rfl (by decide) ?_
  show J E 6 g [ob h 1 [.ref a1, .ref a2, .ref a3, .ref a4, .ref a5, .ref a6], aL E a2 5 (finT t p), aL E a3 5 (tpP (car t) p 5), aL E a4 4 (words4 (finT t p) wo), aI E a5 4 la, aB E rr n row] [(5, .int 0), (3, .long 0), (0, .ref h), (1, .ref rr), (2, .int (nI k))] 0 0 110 []
  refine j_pick [2, 3, 4, 1, 0] (lv' := [(0, .ref h), (1, .ref rr), (2, .int (nI k)), (3, .long 0), (5, .int 0)]) rfl ?_
  have loop : ∀ (zk i : Nat), i + zk = 4 → J E 6 g [ob h 1 [.ref a1, .ref a2, .ref a3, .ref a4, .ref a5, .ref a6], aL E a2 5 (finT t p), aL E a3 5 (tpP (car t) p 5), aL E a4 4 (words4 (finT t p) wo), aI E a5 4 la, aB E rr n ((foS (words4 (finT t p) wo) la row k i).2)] [(0, .ref h), (1, .ref rr), (2, .int (nI k)), (3, .long ((foS (words4 (finT t p) wo) la row k i).1)), (5, .int (nI i))] 0 0 110 [] := by
    intro zk
    induction zk with
    | zero =>
      intro i  hi
      obtain rfl : 4 = i := by omega
      refine j_iload hg 4 dP_finish_110 rfl ?_
      refine j_iconst hg (v := 4) dP_finish_112 (by decide) ?_
      refine j_nge_t hg (tgt := 166) 4 4 rfl rfl (by omega) (by omega) (by omega) dP_finish_113 (by decide) ?_
      exact j_vret hg hR () trivial rfl [0, 1, 2, 3, 4, 5] rfl (by decide) (by decide) (by decide) dP_finish_166
    | succ zk ih =>
      intro i  hi
      refine j_iload hg 4 dP_finish_110 rfl ?_
      refine j_iconst hg (v := 4) dP_finish_112 (by decide) ?_
      refine j_nge_f hg (tgt := 166) i 4 rfl rfl (by omega) (by omega) (by omega) dP_finish_113 (by decide) ?_
      refine j_lload_n hg 3 dP_finish_116 rfl rfl ?_
      refine j_aload_n hg 0 dP_finish_117 rfl rfl ?_
      refine j_get hg (C := RX1) (T := TX1) (N := 6) inX1 0 rfl rfl 3 (by decide) m41 rfl dP_finish_118 ?_
      refine j_iload hg 4 dP_finish_121 rfl ?_
      refine j_lald hg (v := (words4 (finT t p) wo) i) 3 i rfl rfl (by omega) (by omega) rfl dP_finish_123 ?_
      refine j_ldc2 hg (v := 4294967295) m206 dP_finish_124 ?_
      refine j_land hg (v := ((words4 (finT t p) wo) i) &&& 4294967295) dP_finish_127 rfl ?_
      refine j_aload_n hg 0 dP_finish_128 rfl rfl ?_
      refine j_get hg (C := RX1) (T := TX1) (N := 6) inX1 0 rfl rfl 4 (by decide) m42 rfl dP_finish_129 ?_
      refine j_iload hg 4 dP_finish_132 rfl ?_
      refine j_iald hg (v := la i) 4 i rfl rfl (by omega) (by omega) rfl dP_finish_134 ?_
      refine j_i2l hg (v := (la i).toInt64) dP_finish_135 rfl ?_
      refine j_ldc2 hg (v := 4294967295) m206 dP_finish_136 ?_
      refine j_land hg (v := ((la i).toInt64) &&& 4294967295) dP_finish_139 rfl ?_
      refine j_ladd hg (v := (((words4 (finT t p) wo) i) &&& 4294967295) + (((la i).toInt64) &&& 4294967295)) dP_finish_140 rfl ?_
      refine j_ladd hg (v := ((foS (words4 (finT t p) wo) la row k i).1) + ((((words4 (finT t p) wo) i) &&& 4294967295) + (((la i).toInt64) &&& 4294967295))) dP_finish_141 rfl ?_
      refine j_lstore_n hg (lv' := [(3, .long (((foS (words4 (finT t p) wo) la row k i).1) + ((((words4 (finT t p) wo) i) &&& 4294967295) + (((la i).toInt64) &&& 4294967295)))), (0, .ref h), (1, .ref rr), (2, .int (nI k)), (5, .int (nI i))]) dP_finish_142 rfl (by decide) rfl ?_
      refine j_aload_n hg 2 dP_finish_143 rfl rfl ?_
      refine j_iload_n hg 3 dP_finish_144 rfl rfl ?_
      refine j_iconst hg (v := 4) dP_finish_145 (by decide) ?_
      refine j_iload hg 4 dP_finish_146 rfl ?_
      refine j_imul hg (v := nI (4 * i)) dP_finish_148 (pk_mul 4 i) ?_
      refine j_iadd hg (v := nI (k + (4 * i))) dP_finish_149 (nI_add k (4 * i)) ?_
      refine j_lload_n hg 0 dP_finish_150 rfl rfl ?_
      refine j_l2i hg (v := (((foS (words4 (finT t p) wo) la row k i).1) + ((((words4 (finT t p) wo) i) &&& 4294967295) + (((la i).toInt64) &&& 4294967295))).toInt32) dP_finish_151 rfl ?_
      refine j_callSN hg (n := 3) (y := yS_writeLowestFirst) (rm := rm_S_writeLowestFirst) (Ws := (cT yS_writeLowestFirst cS_writeLowestFirst 3 none)) (As := [.ref rr, .int (nI (k + (4 * i))), .int ((((foS (words4 (finT t p) wo) la row k i).1) + ((((words4 (finT t p) wo) i) &&& 4294967295) + (((la i).toInt64) &&& 4294967295))).toInt32)]) (rest := []) (wr := [ob h 1 [.ref a1, .ref a2, .ref a3, .ref a4, .ref a5, .ref a6], aL E a2 5 (finT t p), aL E a3 5 (tpP (car t) p 5), aL E a4 4 (words4 (finT t p) wo), aI E a5 4 la]) (host := RX3) (c_S_writeLowestFirst l E rr n ((foS (words4 (finT t p) wo) la row k i).2) (k + (4 * i)) ((((foS (words4 (finT t p) wo) la row k i).1) + ((((words4 (finT t p) wo) i) &&& 4294967295) + (((la i).toInt64) &&& 4294967295))).toInt32) (by omega) (by omega)) (gdT m187) rfl m1 (by decide +kernel) m186 (by decide +kernel) ⟨by decide, by decide⟩ rfl rfl (Nat.le_of_ble_eq_true rfl) ⟨by decide, by decide⟩ [5] [0, 1, 2, 3, 4] rfl rfl (by decide) (by decide) (by decide) dP_finish_152 (fun _ _ => ?_)
      show J E 6 g [ob h 1 [.ref a1, .ref a2, .ref a3, .ref a4, .ref a5, .ref a6], aL E a2 5 (finT t p), aL E a3 5 (tpP (car t) p 5), aL E a4 4 (words4 (finT t p) wo), aI E a5 4 la, aB E rr n (wl ((foS (words4 (finT t p) wo) la row k i).2) (k + (4 * i)) ((((foS (words4 (finT t p) wo) la row k i).1) + ((((words4 (finT t p) wo) i) &&& 4294967295) + (((la i).toInt64) &&& 4294967295))).toInt32))] [(3, .long (((foS (words4 (finT t p) wo) la row k i).1) + ((((words4 (finT t p) wo) i) &&& 4294967295) + (((la i).toInt64) &&& 4294967295)))), (0, .ref h), (1, .ref rr), (2, .int (nI k)), (5, .int (nI i))] 0 0 155 []
      refine j_lload_n hg 0 dP_finish_155 rfl rfl ?_
      refine j_bipush hg (v := 32) dP_finish_156 (by decide) ?_
      refine j_lushr hg (v := lushr (((foS (words4 (finT t p) wo) la row k i).1) + ((((words4 (finT t p) wo) i) &&& 4294967295) + (((la i).toInt64) &&& 4294967295))) 32) dP_finish_158 rfl ?_
      refine j_lstore_n hg (lv' := [(3, .long (lushr (((foS (words4 (finT t p) wo) la row k i).1) + ((((words4 (finT t p) wo) i) &&& 4294967295) + (((la i).toInt64) &&& 4294967295))) 32)), (0, .ref h), (1, .ref rr), (2, .int (nI k)), (5, .int (nI i))]) dP_finish_159 rfl (by decide) rfl ?_
      refine j_iinc hg (kq := 4) (v := nI (i + 1)) (lv' := [(5, .int (nI (i + 1))), (3, .long (lushr (((foS (words4 (finT t p) wo) la row k i).1) + ((((words4 (finT t p) wo) i) &&& 4294967295) + (((la i).toInt64) &&& 4294967295))) 32)), (0, .ref h), (1, .ref rr), (2, .int (nI k))]) dP_finish_160 rfl (nI_add i 1) (by decide) rfl ?_
      refine j_goto hg (tgt := 110) dP_finish_163 (by decide) ?_
      refine j_pick [2, 3, 4, 1, 0] (lv' := [(0, .ref h), (1, .ref rr), (2, .int (nI k)), (3, .long (lushr (((foS (words4 (finT t p) wo) la row k i).1) + ((((words4 (finT t p) wo) i) &&& 4294967295) + (((la i).toInt64) &&& 4294967295))) 32)), (5, .int (nI (i + 1)))]) rfl ?_
      exact ih (i + 1) (by omega)
  exact loop (4) 0 (by omega)

def rm_P_init : Room := { frames := 1, cells := 6, slots := 40, locals := 12 }
set_option maxHeartbeats 1000000 in
set_option maxRecDepth 100000 in
theorem c_P_init (l : Launch) (E : Ev) (h : Nat) : MC E l yP_init (cT yP_init cP_init 1 none) rm_P_init [.ref h] [ob h 1 [.null, .null, .null, .null, .null, .null]] (Nat × Nat × Nat × Nat × Nat × Nat) (fun _ => True) (fun u => none) (fun u => [ob h 1 [.ref u.1, .ref u.2.1, .ref u.2.2.1, .ref u.2.2.2.1, .ref u.2.2.2.2.1, .ref u.2.2.2.2.2], aL E u.1 5 (fun _ => 0), aL E u.2.1 5 (fun _ => 0), aL E u.2.2.1 5 (fun _ => 0), aL E u.2.2.2.1 4 (fun _ => 0), aI E u.2.2.2.2.1 4 (fun _ => 0), aB E u.2.2.2.2.2 17 (fun _ => 0)]) := by
  refine MC.of (cc := cP_init) (nL := 1) (ret := none) (by decide) rfl cT_in (Nat.le_of_ble_eq_true rfl) (fun g hg hR => ?_)
  show J E 1 g [ob h 1 [.null, .null, .null, .null, .null, .null]] [(0, .ref h)] 0 0 0 []
  refine j_aload_n hg 0 dP_init_0 rfl rfl ?_
  refine j_objInit hg m37 m15 m16 dP_init_1 (Nat.le_of_ble_eq_true rfl) (Nat.le_of_ble_eq_true rfl) ?_
  refine j_aload_n hg 0 dP_init_4 rfl rfl ?_
  refine j_iconst hg (v := 5) dP_init_5 (by decide) ?_
  refine j_newL hg 5 m57 rfl (by decide) (by decide) (by decide) dP_init_6 (fun q1 => ?_)
  show J E 1 g [ob h 1 [.null, .null, .null, .null, .null, .null], aL E q1 5 (fun _ => 0)] [(0, .ref h)] 1 5 8 [.ref q1, .ref h]
  refine j_putF hg hR (C := RX1) (T := TX1) (N := 6) (ty := (.array .long)) (ws' := [ob h 1 [.ref q1, .null, .null, .null, .null, .null], aL E q1 5 (fun _ => 0)]) inX1 tyX1 tyX1_ok nmX1 0 rfl rfl 0 (by decide) m38 rfl rfl (by decide +kernel) rfl rfl (Nat.le_of_ble_eq_true rfl) rfl dP_init_8 ?_
  refine j_aload_n hg 0 dP_init_11 rfl rfl ?_
  refine j_iconst hg (v := 5) dP_init_12 (by decide) ?_
  refine j_newL hg 5 m57 rfl (by decide) (by decide) (by decide) dP_init_13 (fun q2 => ?_)
  show J E 1 g [ob h 1 [.ref q1, .null, .null, .null, .null, .null], aL E q1 5 (fun _ => 0), aL E q2 5 (fun _ => 0)] [(0, .ref h)] 2 10 15 [.ref q2, .ref h]
  refine j_putF hg hR (C := RX1) (T := TX1) (N := 6) (ty := (.array .long)) (ws' := [ob h 1 [.ref q1, .ref q2, .null, .null, .null, .null], aL E q1 5 (fun _ => 0), aL E q2 5 (fun _ => 0)]) inX1 tyX1 tyX1_ok nmX1 0 rfl rfl 1 (by decide) m39 rfl rfl (by decide +kernel) rfl rfl (Nat.le_of_ble_eq_true rfl) rfl dP_init_15 ?_
  refine j_aload_n hg 0 dP_init_18 rfl rfl ?_
  refine j_iconst hg (v := 5) dP_init_19 (by decide) ?_
  refine j_newL hg 5 m57 rfl (by decide) (by decide) (by decide) dP_init_20 (fun q3 => ?_)
  show J E 1 g [ob h 1 [.ref q1, .ref q2, .null, .null, .null, .null], aL E q1 5 (fun _ => 0), aL E q2 5 (fun _ => 0), aL E q3 5 (fun _ => 0)] [(0, .ref h)] 3 15 22 [.ref q3, .ref h]
  refine j_putF hg hR (C := RX1) (T := TX1) (N := 6) (ty := (.array .long)) (ws' := [ob h 1 [.ref q1, .ref q2, .ref q3, .null, .null, .null], aL E q1 5 (fun _ => 0), aL E q2 5 (fun _ => 0), aL E q3 5 (fun _ => 0)]) inX1 tyX1 tyX1_ok nmX1 0 rfl rfl 2 (by decide) m40 rfl rfl (by decide +kernel) rfl rfl (Nat.le_of_ble_eq_true rfl) rfl dP_init_22 ?_
  refine j_aload_n hg 0 dP_init_25 rfl rfl ?_
  refine j_iconst hg (v := 4) dP_init_26 (by decide) ?_
  refine j_newL hg 4 m57 rfl (by decide) (by decide) (by decide) dP_init_27 (fun q4 => ?_)
  show J E 1 g [ob h 1 [.ref q1, .ref q2, .ref q3, .null, .null, .null], aL E q1 5 (fun _ => 0), aL E q2 5 (fun _ => 0), aL E q3 5 (fun _ => 0), aL E q4 4 (fun _ => 0)] [(0, .ref h)] 4 19 29 [.ref q4, .ref h]
  refine j_putF hg hR (C := RX1) (T := TX1) (N := 6) (ty := (.array .long)) (ws' := [ob h 1 [.ref q1, .ref q2, .ref q3, .ref q4, .null, .null], aL E q1 5 (fun _ => 0), aL E q2 5 (fun _ => 0), aL E q3 5 (fun _ => 0), aL E q4 4 (fun _ => 0)]) inX1 tyX1 tyX1_ok nmX1 0 rfl rfl 3 (by decide) m41 rfl rfl (by decide +kernel) rfl rfl (Nat.le_of_ble_eq_true rfl) rfl dP_init_29 ?_
  refine j_aload_n hg 0 dP_init_32 rfl rfl ?_
  refine j_iconst hg (v := 4) dP_init_33 (by decide) ?_
  refine j_newI hg 4 m31 rfl (by decide) (by decide) (by decide) dP_init_34 (fun q5 => ?_)
  show J E 1 g [ob h 1 [.ref q1, .ref q2, .ref q3, .ref q4, .null, .null], aL E q1 5 (fun _ => 0), aL E q2 5 (fun _ => 0), aL E q3 5 (fun _ => 0), aL E q4 4 (fun _ => 0), aI E q5 4 (fun _ => 0)] [(0, .ref h)] 5 23 36 [.ref q5, .ref h]
  refine j_putF hg hR (C := RX1) (T := TX1) (N := 6) (ty := (.array .int)) (ws' := [ob h 1 [.ref q1, .ref q2, .ref q3, .ref q4, .ref q5, .null], aL E q1 5 (fun _ => 0), aL E q2 5 (fun _ => 0), aL E q3 5 (fun _ => 0), aL E q4 4 (fun _ => 0), aI E q5 4 (fun _ => 0)]) inX1 tyX1 tyX1_ok nmX1 0 rfl rfl 4 (by decide) m42 rfl rfl (by decide +kernel) rfl rfl (Nat.le_of_ble_eq_true rfl) rfl dP_init_36 ?_
  refine j_aload_n hg 0 dP_init_39 rfl rfl ?_
  refine j_bipush hg (v := 17) dP_init_40 (by decide) ?_
  refine j_newB hg 17 m30 rfl (by decide) (by decide) (by decide) dP_init_42 (fun q6 => ?_)
  show J E 1 g [ob h 1 [.ref q1, .ref q2, .ref q3, .ref q4, .ref q5, .null], aL E q1 5 (fun _ => 0), aL E q2 5 (fun _ => 0), aL E q3 5 (fun _ => 0), aL E q4 4 (fun _ => 0), aI E q5 4 (fun _ => 0), aB E q6 17 (fun _ => 0)] [(0, .ref h)] 6 40 44 [.ref q6, .ref h]
  refine j_putF hg hR (C := RX1) (T := TX1) (N := 6) (ty := (.array .byte)) (ws' := [ob h 1 [.ref q1, .ref q2, .ref q3, .ref q4, .ref q5, .ref q6], aL E q1 5 (fun _ => 0), aL E q2 5 (fun _ => 0), aL E q3 5 (fun _ => 0), aL E q4 4 (fun _ => 0), aI E q5 4 (fun _ => 0), aB E q6 17 (fun _ => 0)]) inX1 tyX1 tyX1_ok nmX1 0 rfl rfl 5 (by decide) m43 rfl rfl (by decide +kernel) rfl rfl (Nat.le_of_ble_eq_true rfl) rfl dP_init_44 ?_
  exact j_vret hg hR (q1, q2, q3, q4, q5, q6) trivial rfl [0, 1, 2, 3, 4, 5, 6] rfl (by decide) (by decide) (by decide) dP_init_47

def rm_H_init : Room := { frames := 1, cells := 4, slots := 144, locals := 12 }
set_option maxHeartbeats 1000000 in
set_option maxRecDepth 100000 in
theorem c_H_init (l : Launch) (E : Ev) (h : Nat) : MC E l yH_init (cT yH_init cH_init 1 none) rm_H_init [.ref h] [ob h 2 [.null, .null, .null, .null, .int 0, .int 0]] (Nat × Nat × Nat × Nat) (fun _ => True) (fun u => none) (fun u => [ob h 2 [.ref u.1, .ref u.2.1, .ref u.2.2.1, .ref u.2.2.2, .int 0, .int 0], aI E u.1 8 (fun _ => 0), aI E u.2.1 64 (fun _ => 0), aI E u.2.2.1 8 (fun _ => 0), aB E u.2.2.2 64 (fun _ => 0)]) := by
  refine MC.of (cc := cH_init) (nL := 1) (ret := none) (by decide) rfl cT_in (Nat.le_of_ble_eq_true rfl) (fun g hg hR => ?_)
  show J E 1 g [ob h 2 [.null, .null, .null, .null, .int 0, .int 0]] [(0, .ref h)] 0 0 0 []
  refine j_aload_n hg 0 dH_init_0 rfl rfl ?_
  refine j_objInit hg m63 m15 m16 dH_init_1 (Nat.le_of_ble_eq_true rfl) (Nat.le_of_ble_eq_true rfl) ?_
  refine j_aload_n hg 0 dH_init_4 rfl rfl ?_
  refine j_bipush hg (v := 8) dH_init_5 (by decide) ?_
  refine j_newI hg 8 m31 rfl (by decide) (by decide) (by decide) dH_init_7 (fun q1 => ?_)
  show J E 1 g [ob h 2 [.null, .null, .null, .null, .int 0, .int 0], aI E q1 8 (fun _ => 0)] [(0, .ref h)] 1 8 9 [.ref q1, .ref h]
  refine j_putF hg hR (C := RX2) (T := TX2) (N := 6) (ty := (.array .int)) (ws' := [ob h 2 [.ref q1, .null, .null, .null, .int 0, .int 0], aI E q1 8 (fun _ => 0)]) inX2 tyX2 tyX2_ok nmX2 0 rfl rfl 0 (by decide) m64 rfl rfl (by decide +kernel) rfl rfl (Nat.le_of_ble_eq_true rfl) rfl dH_init_9 ?_
  refine j_aload_n hg 0 dH_init_12 rfl rfl ?_
  refine j_bipush hg (v := 64) dH_init_13 (by decide) ?_
  refine j_newI hg 64 m31 rfl (by decide) (by decide) (by decide) dH_init_15 (fun q2 => ?_)
  show J E 1 g [ob h 2 [.ref q1, .null, .null, .null, .int 0, .int 0], aI E q1 8 (fun _ => 0), aI E q2 64 (fun _ => 0)] [(0, .ref h)] 2 72 17 [.ref q2, .ref h]
  refine j_putF hg hR (C := RX2) (T := TX2) (N := 6) (ty := (.array .int)) (ws' := [ob h 2 [.ref q1, .ref q2, .null, .null, .int 0, .int 0], aI E q1 8 (fun _ => 0), aI E q2 64 (fun _ => 0)]) inX2 tyX2 tyX2_ok nmX2 0 rfl rfl 1 (by decide) m65 rfl rfl (by decide +kernel) rfl rfl (Nat.le_of_ble_eq_true rfl) rfl dH_init_17 ?_
  refine j_aload_n hg 0 dH_init_20 rfl rfl ?_
  refine j_bipush hg (v := 8) dH_init_21 (by decide) ?_
  refine j_newI hg 8 m31 rfl (by decide) (by decide) (by decide) dH_init_23 (fun q3 => ?_)
  show J E 1 g [ob h 2 [.ref q1, .ref q2, .null, .null, .int 0, .int 0], aI E q1 8 (fun _ => 0), aI E q2 64 (fun _ => 0), aI E q3 8 (fun _ => 0)] [(0, .ref h)] 3 80 25 [.ref q3, .ref h]
  refine j_putF hg hR (C := RX2) (T := TX2) (N := 6) (ty := (.array .int)) (ws' := [ob h 2 [.ref q1, .ref q2, .ref q3, .null, .int 0, .int 0], aI E q1 8 (fun _ => 0), aI E q2 64 (fun _ => 0), aI E q3 8 (fun _ => 0)]) inX2 tyX2 tyX2_ok nmX2 0 rfl rfl 2 (by decide) m66 rfl rfl (by decide +kernel) rfl rfl (Nat.le_of_ble_eq_true rfl) rfl dH_init_25 ?_
  refine j_aload_n hg 0 dH_init_28 rfl rfl ?_
  refine j_bipush hg (v := 64) dH_init_29 (by decide) ?_
  refine j_newB hg 64 m30 rfl (by decide) (by decide) (by decide) dH_init_31 (fun q4 => ?_)
  show J E 1 g [ob h 2 [.ref q1, .ref q2, .ref q3, .null, .int 0, .int 0], aI E q1 8 (fun _ => 0), aI E q2 64 (fun _ => 0), aI E q3 8 (fun _ => 0), aB E q4 64 (fun _ => 0)] [(0, .ref h)] 4 144 33 [.ref q4, .ref h]
  refine j_putF hg hR (C := RX2) (T := TX2) (N := 6) (ty := (.array .byte)) (ws' := [ob h 2 [.ref q1, .ref q2, .ref q3, .ref q4, .int 0, .int 0], aI E q1 8 (fun _ => 0), aI E q2 64 (fun _ => 0), aI E q3 8 (fun _ => 0), aB E q4 64 (fun _ => 0)]) inX2 tyX2 tyX2_ok nmX2 0 rfl rfl 3 (by decide) m67 rfl rfl (by decide +kernel) rfl rfl (Nat.le_of_ble_eq_true rfl) rfl dH_init_33 ?_
  refine j_aload_n hg 0 dH_init_36 rfl rfl ?_
  refine j_iconst hg (v := 0) dH_init_37 (by decide) ?_
  refine j_put hg (C := RX2) (T := TX2) (N := 6) (ty := .int) (ws' := [ob h 2 [.ref q1, .ref q2, .ref q3, .ref q4, .int 0, .int 0], aI E q1 8 (fun _ => 0), aI E q2 64 (fun _ => 0), aI E q3 8 (fun _ => 0), aB E q4 64 (fun _ => 0)]) inX2 tyX2 tyX2_ok nmX2 0 rfl rfl 4 (by decide) m68 rfl (by decide +kernel) rfl rfl (Nat.le_of_ble_eq_true rfl) rfl dH_init_38 ?_
  refine j_aload_n hg 0 dH_init_41 rfl rfl ?_
  refine j_iconst hg (v := 0) dH_init_42 (by decide) ?_
  refine j_put hg (C := RX2) (T := TX2) (N := 6) (ty := .int) (ws' := [ob h 2 [.ref q1, .ref q2, .ref q3, .ref q4, .int 0, .int 0], aI E q1 8 (fun _ => 0), aI E q2 64 (fun _ => 0), aI E q3 8 (fun _ => 0), aB E q4 64 (fun _ => 0)]) inX2 tyX2 tyX2_ok nmX2 0 rfl rfl 5 (by decide) m69 rfl (by decide +kernel) rfl rfl (Nat.le_of_ble_eq_true rfl) rfl dH_init_43 ?_
  exact j_vret hg hR (q1, q2, q3, q4) trivial rfl [0, 1, 2, 3, 4] rfl (by decide) (by decide) (by decide) dH_init_46
end
section
/-! StreamSeal: the object's methods, case by case. -/
def rn (n : Int32) (k : Nat) : Option Nat := if 0 ≤ n.toInt ∧ n.toInt ≤ k then some n.toInt.toNat else none
theorem rn_some {n : Int32} {k j : Nat} (h : rn n k = some j) : n = nI j ∧ j ≤ k := by
  unfold rn at h
  split at h
  · rename_i c
    have e := Option.some.inj h
    refine ⟨?_, by omega⟩
    apply Int32.toInt_inj.mp
    have h3 := Int32.toInt_lt n
    rw [nI_toInt (by omega)]
    omega
  · cases h
theorem rn_neg {n : Int32} {k : Nat} (h : n < 0) : rn n k = none := if_neg (fun c => by
  have h1 := Int32.lt_iff_toInt_lt.mp h
  rw [Int32.toInt_zero] at h1
  omega)
theorem rn_big {j k : Nat} (hj : j < 2147483648) (h : k < j) : rn (nI j) k = none := if_neg (fun c => by
  rw [nI_toInt hj] at c
  omega)
theorem rn_nI {j k : Nat} (hj : j < 2147483648) (h : j ≤ k) : rn (nI j) k = some j := by
  unfold rn
  rw [nI_toInt hj, if_pos (by omega)]
  rfl
theorem rn_lt {j k : Nat} (hj : j < 2147483648) (h : rn (nI j) k = none) : k < j := by
  rcases Nat.lt_or_ge k j with z | z
  · exact z
  · rw [rn_nI hj z] at h
    cases h

def rm_S_tapeReaches : Room := { frames := 0, cells := 0, slots := 0, locals := 0 }
set_option maxHeartbeats 1000000 in
set_option maxRecDepth 100000 in
theorem c_S_tapeReaches_y (l : Launch) (E : Ev) (h xt xo xk xn xb xz xm xs xp xd : Nat) (tn on : Nat) (j : Nat) (hj : j ≤ tn) (ht : tn < 2147483648) : MC E l yS_tapeReaches (cT yS_tapeReaches cS_tapeReaches 2 (some .boolean)) rm_S_tapeReaches [.ref h, .int (nI j)] [ob h 3 [.ref xt, .int (nI tn), .ref xo, .int (nI on), .ref xk, .ref xn, .ref xb, .ref xz, .ref xm, .ref xs, .ref xp, .ref xd]] Unit (fun _ => True) (fun _ => some (.int 1)) (fun _ => [ob h 3 [.ref xt, .int (nI tn), .ref xo, .int (nI on), .ref xk, .ref xn, .ref xb, .ref xz, .ref xm, .ref xs, .ref xp, .ref xd]]) := by
  refine MC.of (cc := cS_tapeReaches) (nL := 2) (ret := (some .boolean)) (by decide) rfl cT_in (Nat.le_of_ble_eq_true rfl) (fun g hg hR => ?_)
  show J E 2 g [ob h 3 [.ref xt, .int (nI tn), .ref xo, .int (nI on), .ref xk, .ref xn, .ref xb, .ref xz, .ref xm, .ref xs, .ref xp, .ref xd]] [(0, .ref h), (1, .int (nI j))] 0 0 0 []
  refine j_iload_n hg 1 dS_tapeReaches_0 rfl rfl ?_
  refine j_zlt_f hg (tgt := 16) j rfl (by omega) (by omega) dS_tapeReaches_1 (by decide) ?_
  refine j_iload_n hg 1 dS_tapeReaches_4 rfl rfl ?_
  refine j_aload_n hg 0 dS_tapeReaches_5 rfl rfl ?_
  refine j_get hg (C := RX3) (T := TX3) (N := 12) inX3 0 rfl rfl 1 (by decide) m84 rfl dS_tapeReaches_6 ?_
  refine j_ngt_f hg (tgt := 16) j tn rfl rfl (by omega) (by omega) (by omega) dS_tapeReaches_9 (by decide) ?_
  refine j_iconst hg (v := 1) dS_tapeReaches_12 (by decide) ?_
  refine j_goto hg (tgt := 17) dS_tapeReaches_13 (by decide) ?_
  exact j_iret hg hR rfl () trivial rfl [0] rfl (by decide) (by decide) (by decide) dS_tapeReaches_17

set_option maxHeartbeats 1000000 in
set_option maxRecDepth 100000 in
theorem c_S_tapeReaches_n (l : Launch) (E : Ev) (h xt xo xk xn xb xz xm xs xp xd : Nat) (tn on : Nat) (n : Int32) (hn : rn n tn = none) (ht : tn < 2147483648) : MC E l yS_tapeReaches (cT yS_tapeReaches cS_tapeReaches 2 (some .boolean)) rm_S_tapeReaches [.ref h, .int n] [ob h 3 [.ref xt, .int (nI tn), .ref xo, .int (nI on), .ref xk, .ref xn, .ref xb, .ref xz, .ref xm, .ref xs, .ref xp, .ref xd]] Unit (fun _ => True) (fun _ => some (.int 0)) (fun _ => [ob h 3 [.ref xt, .int (nI tn), .ref xo, .int (nI on), .ref xk, .ref xn, .ref xb, .ref xz, .ref xm, .ref xs, .ref xp, .ref xd]]) := by
  refine MC.of (cc := cS_tapeReaches) (nL := 2) (ret := (some .boolean)) (by decide) rfl cT_in (Nat.le_of_ble_eq_true rfl) (fun g hg hR => ?_)
  show J E 2 g [ob h 3 [.ref xt, .int (nI tn), .ref xo, .int (nI on), .ref xk, .ref xn, .ref xb, .ref xz, .ref xm, .ref xs, .ref xp, .ref xd]] [(0, .ref h), (1, .int n)] 0 0 0 []
  refine j_iload_n hg 1 dS_tapeReaches_0 rfl rfl ?_
  refine j_if_lt hg (tgt := 16) dS_tapeReaches_1 (by decide) (fun hc => ?_) (fun hc => ?_)
  · skip
    refine j_iconst hg (v := 0) dS_tapeReaches_16 (by decide) ?_
    exact j_iret hg hR rfl () trivial rfl [0] rfl (by decide) (by decide) (by decide) dS_tapeReaches_17
  · skip
    obtain ⟨j, hj, rfl⟩ := nI_of hc
    refine j_iload_n hg 1 dS_tapeReaches_4 rfl rfl ?_
    refine j_aload_n hg 0 dS_tapeReaches_5 rfl rfl ?_
    refine j_get hg (C := RX3) (T := TX3) (N := 12) inX3 0 rfl rfl 1 (by decide) m84 rfl dS_tapeReaches_6 ?_
    refine j_ngt_t hg (tgt := 16) j tn rfl rfl (by omega) (by omega) (rn_lt hj hn) dS_tapeReaches_9 (by decide) ?_
    refine j_iconst hg (v := 0) dS_tapeReaches_16 (by decide) ?_
    exact j_iret hg hR rfl () trivial rfl [0] rfl (by decide) (by decide) (by decide) dS_tapeReaches_17

def rm_S_feed : Room := { frames := 1, cells := 0, slots := 0, locals := 22 }
set_option maxHeartbeats 1000000 in
set_option maxRecDepth 100000 in
theorem c_S_feed_full (l : Launch) (E : Ev) (h xt xo xk xn xb xz xm xs xp xd : Nat) (tn on : Nat) (a b c d e : Int32) (h1 : 780 < tn) (ht : tn < 2147483648) : MC E l yS_feed (cT yS_feed cS_feed 6 (some .int)) rm_S_feed [.ref h, .int a, .int b, .int c, .int d, .int e] [ob h 3 [.ref xt, .int (nI tn), .ref xo, .int (nI on), .ref xk, .ref xn, .ref xb, .ref xz, .ref xm, .ref xs, .ref xp, .ref xd]] Unit (fun _ => True) (fun _ => some (.int (-3))) (fun _ => [ob h 3 [.ref xt, .int (nI tn), .ref xo, .int (nI on), .ref xk, .ref xn, .ref xb, .ref xz, .ref xm, .ref xs, .ref xp, .ref xd]]) := by
  refine MC.of (cc := cS_feed) (nL := 6) (ret := (some .int)) (by decide) rfl cT_in (Nat.le_of_ble_eq_true rfl) (fun g hg hR => ?_)
  show J E 6 g [ob h 3 [.ref xt, .int (nI tn), .ref xo, .int (nI on), .ref xk, .ref xn, .ref xb, .ref xz, .ref xm, .ref xs, .ref xp, .ref xd]] [(0, .ref h), (1, .int a), (2, .int b), (3, .int c), (4, .int d), (5, .int e)] 0 0 0 []
  refine j_aload_n hg 0 dS_feed_0 rfl rfl ?_
  refine j_get hg (C := RX3) (T := TX3) (N := 12) inX3 0 rfl rfl 1 (by decide) m84 rfl dS_feed_1 ?_
  refine j_sipush hg (v := 780) dS_feed_4 (by decide) ?_
  refine j_nle_f hg (tgt := 13) tn 780 rfl rfl (by omega) (by omega) (by omega) dS_feed_7 (by decide) ?_
  refine j_bipush hg (v := -3) dS_feed_10 (by decide) ?_
  exact j_iret hg hR rfl () trivial rfl [0] rfl (by decide) (by decide) (by decide) dS_feed_12

set_option maxHeartbeats 1000000 in
set_option maxRecDepth 100000 in
theorem c_S_feed_ok (l : Launch) (E : Ev) (h xt xo xk xn xb xz xm xs xp xd : Nat) (tn on : Nat) (f : Nat → Int32) (a b c d e : Int32) (h1 : tn ≤ 780) : MC E l yS_feed (cT yS_feed cS_feed 6 (some .int)) rm_S_feed [.ref h, .int a, .int b, .int c, .int d, .int e] [ob h 3 [.ref xt, .int (nI tn), .ref xo, .int (nI on), .ref xk, .ref xn, .ref xb, .ref xz, .ref xm, .ref xs, .ref xp, .ref xd], aB E xt 800 f] Unit (fun _ => True) (fun _ => some (.int (nI (tn + 20)))) (fun _ => [ob h 3 [.ref xt, .int (nI (tn + 20)), .ref xo, .int (nI on), .ref xk, .ref xn, .ref xb, .ref xz, .ref xm, .ref xs, .ref xp, .ref xd], aB E xt 800 (wh (wh (wh (wh (wh f tn a) (tn + 4) b) (tn + 8) c) (tn + 12) d) (tn + 16) e)]) := by
  refine MC.of (cc := cS_feed) (nL := 6) (ret := (some .int)) (by decide) rfl cT_in (Nat.le_of_ble_eq_true rfl) (fun g hg hR => ?_)
  show J E 6 g [ob h 3 [.ref xt, .int (nI tn), .ref xo, .int (nI on), .ref xk, .ref xn, .ref xb, .ref xz, .ref xm, .ref xs, .ref xp, .ref xd], aB E xt 800 f] [(0, .ref h), (1, .int a), (2, .int b), (3, .int c), (4, .int d), (5, .int e)] 0 0 0 []
  refine j_aload_n hg 0 dS_feed_0 rfl rfl ?_
  refine j_get hg (C := RX3) (T := TX3) (N := 12) inX3 0 rfl rfl 1 (by decide) m84 rfl dS_feed_1 ?_
  refine j_sipush hg (v := 780) dS_feed_4 (by decide) ?_
  refine j_nle_t hg (tgt := 13) tn 780 rfl rfl (by omega) (by omega) (by omega) dS_feed_7 (by decide) ?_
  refine j_aload_n hg 0 dS_feed_13 rfl rfl ?_
  refine j_get hg (C := RX3) (T := TX3) (N := 12) inX3 0 rfl rfl 0 (by decide) m83 rfl dS_feed_14 ?_
  refine j_aload_n hg 0 dS_feed_17 rfl rfl ?_
  refine j_get hg (C := RX3) (T := TX3) (N := 12) inX3 0 rfl rfl 1 (by decide) m84 rfl dS_feed_18 ?_
  refine j_iload_n hg 1 dS_feed_21 rfl rfl ?_
  refine j_callS hg (n := 3) (y := yS_writeHighestFirst) (rm := rm_S_writeHighestFirst) (Ws := (cT yS_writeHighestFirst cS_writeHighestFirst 3 none)) (As := [.ref xt, .int (nI tn), .int a]) (rest := []) (wr := [ob h 3 [.ref xt, .int (nI tn), .ref xo, .int (nI on), .ref xk, .ref xn, .ref xb, .ref xz, .ref xm, .ref xs, .ref xp, .ref xd]]) (c_S_writeHighestFirst l E xt 800 f tn a (by omega) (by omega)) (gdS m124 m125 m1 m126) rfl (by decide +kernel) ⟨by decide, by decide⟩ rfl rfl (Nat.le_of_ble_eq_true rfl) ⟨by decide, by decide⟩ [1] [0] rfl rfl (by decide) (by decide) (by decide) dS_feed_22 (fun _ _ => ?_)
  show J E 6 g [ob h 3 [.ref xt, .int (nI tn), .ref xo, .int (nI on), .ref xk, .ref xn, .ref xb, .ref xz, .ref xm, .ref xs, .ref xp, .ref xd], aB E xt 800 (wh f tn a)] [(0, .ref h), (1, .int a), (2, .int b), (3, .int c), (4, .int d), (5, .int e)] 0 0 25 []
  refine j_aload_n hg 0 dS_feed_25 rfl rfl ?_
  refine j_get hg (C := RX3) (T := TX3) (N := 12) inX3 0 rfl rfl 0 (by decide) m83 rfl dS_feed_26 ?_
  refine j_aload_n hg 0 dS_feed_29 rfl rfl ?_
  refine j_get hg (C := RX3) (T := TX3) (N := 12) inX3 0 rfl rfl 1 (by decide) m84 rfl dS_feed_30 ?_
  refine j_iconst hg (v := 4) dS_feed_33 (by decide) ?_
  refine j_iadd hg (v := nI (tn + 4)) dS_feed_34 (nI_add tn 4) ?_
  refine j_iload_n hg 2 dS_feed_35 rfl rfl ?_
  refine j_callS hg (n := 3) (y := yS_writeHighestFirst) (rm := rm_S_writeHighestFirst) (Ws := (cT yS_writeHighestFirst cS_writeHighestFirst 3 none)) (As := [.ref xt, .int (nI (tn + 4)), .int b]) (rest := []) (wr := [ob h 3 [.ref xt, .int (nI tn), .ref xo, .int (nI on), .ref xk, .ref xn, .ref xb, .ref xz, .ref xm, .ref xs, .ref xp, .ref xd]]) (c_S_writeHighestFirst l E xt 800 (wh f tn a) (tn + 4) b (by omega) (by omega)) (gdS m124 m125 m1 m126) rfl (by decide +kernel) ⟨by decide, by decide⟩ rfl rfl (Nat.le_of_ble_eq_true rfl) ⟨by decide, by decide⟩ [1] [0] rfl rfl (by decide) (by decide) (by decide) dS_feed_36 (fun _ _ => ?_)
  show J E 6 g [ob h 3 [.ref xt, .int (nI tn), .ref xo, .int (nI on), .ref xk, .ref xn, .ref xb, .ref xz, .ref xm, .ref xs, .ref xp, .ref xd], aB E xt 800 (wh (wh f tn a) (tn + 4) b)] [(0, .ref h), (1, .int a), (2, .int b), (3, .int c), (4, .int d), (5, .int e)] 0 0 39 []
  refine j_aload_n hg 0 dS_feed_39 rfl rfl ?_
  refine j_get hg (C := RX3) (T := TX3) (N := 12) inX3 0 rfl rfl 0 (by decide) m83 rfl dS_feed_40 ?_
  refine j_aload_n hg 0 dS_feed_43 rfl rfl ?_
  refine j_get hg (C := RX3) (T := TX3) (N := 12) inX3 0 rfl rfl 1 (by decide) m84 rfl dS_feed_44 ?_
  refine j_bipush hg (v := 8) dS_feed_47 (by decide) ?_
  refine j_iadd hg (v := nI (tn + 8)) dS_feed_49 (nI_add tn 8) ?_
  refine j_iload_n hg 3 dS_feed_50 rfl rfl ?_
  refine j_callS hg (n := 3) (y := yS_writeHighestFirst) (rm := rm_S_writeHighestFirst) (Ws := (cT yS_writeHighestFirst cS_writeHighestFirst 3 none)) (As := [.ref xt, .int (nI (tn + 8)), .int c]) (rest := []) (wr := [ob h 3 [.ref xt, .int (nI tn), .ref xo, .int (nI on), .ref xk, .ref xn, .ref xb, .ref xz, .ref xm, .ref xs, .ref xp, .ref xd]]) (c_S_writeHighestFirst l E xt 800 (wh (wh f tn a) (tn + 4) b) (tn + 8) c (by omega) (by omega)) (gdS m124 m125 m1 m126) rfl (by decide +kernel) ⟨by decide, by decide⟩ rfl rfl (Nat.le_of_ble_eq_true rfl) ⟨by decide, by decide⟩ [1] [0] rfl rfl (by decide) (by decide) (by decide) dS_feed_51 (fun _ _ => ?_)
  show J E 6 g [ob h 3 [.ref xt, .int (nI tn), .ref xo, .int (nI on), .ref xk, .ref xn, .ref xb, .ref xz, .ref xm, .ref xs, .ref xp, .ref xd], aB E xt 800 (wh (wh (wh f tn a) (tn + 4) b) (tn + 8) c)] [(0, .ref h), (1, .int a), (2, .int b), (3, .int c), (4, .int d), (5, .int e)] 0 0 54 []
  refine j_aload_n hg 0 dS_feed_54 rfl rfl ?_
  refine j_get hg (C := RX3) (T := TX3) (N := 12) inX3 0 rfl rfl 0 (by decide) m83 rfl dS_feed_55 ?_
  refine j_aload_n hg 0 dS_feed_58 rfl rfl ?_
  refine j_get hg (C := RX3) (T := TX3) (N := 12) inX3 0 rfl rfl 1 (by decide) m84 rfl dS_feed_59 ?_
  refine j_bipush hg (v := 12) dS_feed_62 (by decide) ?_
  refine j_iadd hg (v := nI (tn + 12)) dS_feed_64 (nI_add tn 12) ?_
  refine j_iload hg 4 dS_feed_65 rfl ?_
  refine j_callS hg (n := 3) (y := yS_writeHighestFirst) (rm := rm_S_writeHighestFirst) (Ws := (cT yS_writeHighestFirst cS_writeHighestFirst 3 none)) (As := [.ref xt, .int (nI (tn + 12)), .int d]) (rest := []) (wr := [ob h 3 [.ref xt, .int (nI tn), .ref xo, .int (nI on), .ref xk, .ref xn, .ref xb, .ref xz, .ref xm, .ref xs, .ref xp, .ref xd]]) (c_S_writeHighestFirst l E xt 800 (wh (wh (wh f tn a) (tn + 4) b) (tn + 8) c) (tn + 12) d (by omega) (by omega)) (gdS m124 m125 m1 m126) rfl (by decide +kernel) ⟨by decide, by decide⟩ rfl rfl (Nat.le_of_ble_eq_true rfl) ⟨by decide, by decide⟩ [1] [0] rfl rfl (by decide) (by decide) (by decide) dS_feed_67 (fun _ _ => ?_)
  show J E 6 g [ob h 3 [.ref xt, .int (nI tn), .ref xo, .int (nI on), .ref xk, .ref xn, .ref xb, .ref xz, .ref xm, .ref xs, .ref xp, .ref xd], aB E xt 800 (wh (wh (wh (wh f tn a) (tn + 4) b) (tn + 8) c) (tn + 12) d)] [(0, .ref h), (1, .int a), (2, .int b), (3, .int c), (4, .int d), (5, .int e)] 0 0 70 []
  refine j_aload_n hg 0 dS_feed_70 rfl rfl ?_
  refine j_get hg (C := RX3) (T := TX3) (N := 12) inX3 0 rfl rfl 0 (by decide) m83 rfl dS_feed_71 ?_
  refine j_aload_n hg 0 dS_feed_74 rfl rfl ?_
  refine j_get hg (C := RX3) (T := TX3) (N := 12) inX3 0 rfl rfl 1 (by decide) m84 rfl dS_feed_75 ?_
  refine j_bipush hg (v := 16) dS_feed_78 (by decide) ?_
  refine j_iadd hg (v := nI (tn + 16)) dS_feed_80 (nI_add tn 16) ?_
  refine j_iload hg 5 dS_feed_81 rfl ?_
  refine j_callS hg (n := 3) (y := yS_writeHighestFirst) (rm := rm_S_writeHighestFirst) (Ws := (cT yS_writeHighestFirst cS_writeHighestFirst 3 none)) (As := [.ref xt, .int (nI (tn + 16)), .int e]) (rest := []) (wr := [ob h 3 [.ref xt, .int (nI tn), .ref xo, .int (nI on), .ref xk, .ref xn, .ref xb, .ref xz, .ref xm, .ref xs, .ref xp, .ref xd]]) (c_S_writeHighestFirst l E xt 800 (wh (wh (wh (wh f tn a) (tn + 4) b) (tn + 8) c) (tn + 12) d) (tn + 16) e (by omega) (by omega)) (gdS m124 m125 m1 m126) rfl (by decide +kernel) ⟨by decide, by decide⟩ rfl rfl (Nat.le_of_ble_eq_true rfl) ⟨by decide, by decide⟩ [1] [0] rfl rfl (by decide) (by decide) (by decide) dS_feed_83 (fun _ _ => ?_)
  show J E 6 g [ob h 3 [.ref xt, .int (nI tn), .ref xo, .int (nI on), .ref xk, .ref xn, .ref xb, .ref xz, .ref xm, .ref xs, .ref xp, .ref xd], aB E xt 800 (wh (wh (wh (wh (wh f tn a) (tn + 4) b) (tn + 8) c) (tn + 12) d) (tn + 16) e)] [(0, .ref h), (1, .int a), (2, .int b), (3, .int c), (4, .int d), (5, .int e)] 0 0 86 []
  refine j_aload_n hg 0 dS_feed_86 rfl rfl ?_
  refine j_dup hg dS_feed_87 rfl ?_
  refine j_get hg (C := RX3) (T := TX3) (N := 12) inX3 0 rfl rfl 1 (by decide) m84 rfl dS_feed_88 ?_
  refine j_bipush hg (v := 20) dS_feed_91 (by decide) ?_
  refine j_iadd hg (v := nI (tn + 20)) dS_feed_93 (nI_add tn 20) ?_
  refine j_put hg (C := RX3) (T := TX3) (N := 12) (ty := .int) (ws' := [ob h 3 [.ref xt, .int (nI (tn + 20)), .ref xo, .int (nI on), .ref xk, .ref xn, .ref xb, .ref xz, .ref xm, .ref xs, .ref xp, .ref xd], aB E xt 800 (wh (wh (wh (wh (wh f tn a) (tn + 4) b) (tn + 8) c) (tn + 12) d) (tn + 16) e)]) inX3 tyX3 tyX3_ok nmX3 0 rfl rfl 1 (by decide) m84 rfl (by decide +kernel) rfl rfl (Nat.le_of_ble_eq_true rfl) rfl dS_feed_94 ?_
  refine j_aload_n hg 0 dS_feed_97 rfl rfl ?_
  refine j_get hg (C := RX3) (T := TX3) (N := 12) inX3 0 rfl rfl 1 (by decide) m84 rfl dS_feed_98 ?_
  exact j_iret hg hR rfl () trivial rfl [0, 1] rfl (by decide) (by decide) (by decide) dS_feed_101

def rm_S_end : Room := { frames := 1, cells := 0, slots := 0, locals := 21 }
set_option maxHeartbeats 1000000 in
set_option maxRecDepth 100000 in
theorem c_S_end_y (l : Launch) (E : Ev) (h xt xo xk xn xb xz xm xs xp xd : Nat) (tn on : Nat) (j : Nat) (hj : j ≤ tn) (ht : tn < 2147483648) : MC E l yS_end (cT yS_end cS_end 2 (some .int)) rm_S_end [.ref h, .int (nI j)] [ob h 3 [.ref xt, .int (nI tn), .ref xo, .int (nI on), .ref xk, .ref xn, .ref xb, .ref xz, .ref xm, .ref xs, .ref xp, .ref xd]] Unit (fun _ => True) (fun _ => some (.int (nI j))) (fun _ => [ob h 3 [.ref xt, .int (nI j), .ref xo, .int (nI on), .ref xk, .ref xn, .ref xb, .ref xz, .ref xm, .ref xs, .ref xp, .ref xd]]) := by
  refine MC.of (cc := cS_end) (nL := 2) (ret := (some .int)) (by decide) rfl cT_in (Nat.le_of_ble_eq_true rfl) (fun g hg hR => ?_)
  show J E 2 g [ob h 3 [.ref xt, .int (nI tn), .ref xo, .int (nI on), .ref xk, .ref xn, .ref xb, .ref xz, .ref xm, .ref xs, .ref xp, .ref xd]] [(0, .ref h), (1, .int (nI j))] 0 0 0 []
  refine j_aload_n hg 0 dS_end_0 rfl rfl ?_
  refine j_iload_n hg 1 dS_end_1 rfl rfl ?_
  refine j_callV hg (n := 1) (y := yS_tapeReaches) (rm := rm_S_tapeReaches) (Ws := (cT yS_tapeReaches cS_tapeReaches 2 (some .boolean))) (As := [.int (nI j)]) (rest := []) (wr := []) 0 rfl rfl (c_S_tapeReaches_y l E h xt xo xk xn xb xz xm xs xp xd tn on j (by omega) (by omega)) (gdV m131 m133 ms0 m1 m134) rfl (by decide +kernel) ⟨by decide, by decide⟩ rfl rfl (Nat.le_of_ble_eq_true rfl) ⟨by decide, by decide⟩ [0] [] rfl rfl (by decide) (by decide) (by decide) dS_end_2 (fun _ _ => ?_)
  show J E 2 g [ob h 3 [.ref xt, .int (nI tn), .ref xo, .int (nI on), .ref xk, .ref xn, .ref xb, .ref xz, .ref xm, .ref xs, .ref xp, .ref xd]] [(0, .ref h), (1, .int (nI j))] 0 0 5 [.int 1]
  refine j_zne_t hg (tgt := 10) 1 rfl (by omega) (by omega) dS_end_5 (by decide) ?_
  refine j_aload_n hg 0 dS_end_10 rfl rfl ?_
  refine j_iload_n hg 1 dS_end_11 rfl rfl ?_
  refine j_put hg (C := RX3) (T := TX3) (N := 12) (ty := .int) (ws' := [ob h 3 [.ref xt, .int (nI j), .ref xo, .int (nI on), .ref xk, .ref xn, .ref xb, .ref xz, .ref xm, .ref xs, .ref xp, .ref xd]]) inX3 tyX3 tyX3_ok nmX3 0 rfl rfl 1 (by decide) m84 rfl (by decide +kernel) rfl rfl (Nat.le_of_ble_eq_true rfl) rfl dS_end_12 ?_
  refine j_iload_n hg 1 dS_end_15 rfl rfl ?_
  exact j_iret hg hR rfl () trivial rfl [0] rfl (by decide) (by decide) (by decide) dS_end_16

set_option maxHeartbeats 1000000 in
set_option maxRecDepth 100000 in
theorem c_S_end_n (l : Launch) (E : Ev) (h xt xo xk xn xb xz xm xs xp xd : Nat) (tn on : Nat) (n : Int32) (hn : rn n tn = none) (ht : tn < 2147483648) : MC E l yS_end (cT yS_end cS_end 2 (some .int)) rm_S_end [.ref h, .int n] [ob h 3 [.ref xt, .int (nI tn), .ref xo, .int (nI on), .ref xk, .ref xn, .ref xb, .ref xz, .ref xm, .ref xs, .ref xp, .ref xd]] Unit (fun _ => True) (fun _ => some (.int (-1))) (fun _ => [ob h 3 [.ref xt, .int (nI tn), .ref xo, .int (nI on), .ref xk, .ref xn, .ref xb, .ref xz, .ref xm, .ref xs, .ref xp, .ref xd]]) := by
  refine MC.of (cc := cS_end) (nL := 2) (ret := (some .int)) (by decide) rfl cT_in (Nat.le_of_ble_eq_true rfl) (fun g hg hR => ?_)
  show J E 2 g [ob h 3 [.ref xt, .int (nI tn), .ref xo, .int (nI on), .ref xk, .ref xn, .ref xb, .ref xz, .ref xm, .ref xs, .ref xp, .ref xd]] [(0, .ref h), (1, .int n)] 0 0 0 []
  refine j_aload_n hg 0 dS_end_0 rfl rfl ?_
  refine j_iload_n hg 1 dS_end_1 rfl rfl ?_
  refine j_callV hg (n := 1) (y := yS_tapeReaches) (rm := rm_S_tapeReaches) (Ws := (cT yS_tapeReaches cS_tapeReaches 2 (some .boolean))) (As := [.int n]) (rest := []) (wr := []) 0 rfl rfl (c_S_tapeReaches_n l E h xt xo xk xn xb xz xm xs xp xd tn on n hn (by omega)) (gdV m131 m133 ms0 m1 m134) rfl (by decide +kernel) ⟨by decide, by decide⟩ rfl rfl (Nat.le_of_ble_eq_true rfl) ⟨by decide, by decide⟩ [0] [] rfl rfl (by decide) (by decide) (by decide) dS_end_2 (fun _ _ => ?_)
  show J E 2 g [ob h 3 [.ref xt, .int (nI tn), .ref xo, .int (nI on), .ref xk, .ref xn, .ref xb, .ref xz, .ref xm, .ref xs, .ref xp, .ref xd]] [(0, .ref h), (1, .int n)] 0 0 5 [.int 0]
  refine j_zne_f hg (tgt := 10) 0 rfl (by omega) (by omega) dS_end_5 (by decide) ?_
  refine j_iconst hg (v := -1) dS_end_8 (by decide) ?_
  exact j_iret hg hR rfl () trivial rfl [0] rfl (by decide) (by decide) (by decide) dS_end_9

def rm_S_take : Room := { frames := 1, cells := 0, slots := 0, locals := 21 }
set_option maxHeartbeats 1000000 in
set_option maxRecDepth 100000 in
theorem c_S_take_n (l : Launch) (E : Ev) (h xt xo xk xn xb xz xm xs xp xd : Nat) (tn on : Nat) (n : Int32) (hn : rn n tn = none) (ht : tn < 2147483648) : MC E l yS_take (cT yS_take cS_take 2 (some .int)) rm_S_take [.ref h, .int n] [ob h 3 [.ref xt, .int (nI tn), .ref xo, .int (nI on), .ref xk, .ref xn, .ref xb, .ref xz, .ref xm, .ref xs, .ref xp, .ref xd]] Unit (fun _ => True) (fun _ => some (.int (-1))) (fun _ => [ob h 3 [.ref xt, .int (nI tn), .ref xo, .int (nI on), .ref xk, .ref xn, .ref xb, .ref xz, .ref xm, .ref xs, .ref xp, .ref xd]]) := by
  refine MC.of (cc := cS_take) (nL := 2) (ret := (some .int)) (by decide) rfl cT_in (Nat.le_of_ble_eq_true rfl) (fun g hg hR => ?_)
  show J E 2 g [ob h 3 [.ref xt, .int (nI tn), .ref xo, .int (nI on), .ref xk, .ref xn, .ref xb, .ref xz, .ref xm, .ref xs, .ref xp, .ref xd]] [(0, .ref h), (1, .int n)] 0 0 0 []
  refine j_aload_n hg 0 dS_take_0 rfl rfl ?_
  refine j_iload_n hg 1 dS_take_1 rfl rfl ?_
  refine j_callV hg (n := 1) (y := yS_tapeReaches) (rm := rm_S_tapeReaches) (Ws := (cT yS_tapeReaches cS_tapeReaches 2 (some .boolean))) (As := [.int n]) (rest := []) (wr := []) 0 rfl rfl (c_S_tapeReaches_n l E h xt xo xk xn xb xz xm xs xp xd tn on n hn (by omega)) (gdV m131 m133 ms0 m1 m134) rfl (by decide +kernel) ⟨by decide, by decide⟩ rfl rfl (Nat.le_of_ble_eq_true rfl) ⟨by decide, by decide⟩ [0] [] rfl rfl (by decide) (by decide) (by decide) dS_take_2 (fun _ _ => ?_)
  show J E 2 g [ob h 3 [.ref xt, .int (nI tn), .ref xo, .int (nI on), .ref xk, .ref xn, .ref xb, .ref xz, .ref xm, .ref xs, .ref xp, .ref xd]] [(0, .ref h), (1, .int n)] 0 0 5 [.int 0]
  refine j_zne_f hg (tgt := 10) 0 rfl (by omega) (by omega) dS_take_5 (by decide) ?_
  refine j_iconst hg (v := -1) dS_take_8 (by decide) ?_
  exact j_iret hg hR rfl () trivial rfl [0] rfl (by decide) (by decide) (by decide) dS_take_9

set_option maxHeartbeats 1000000 in
set_option maxRecDepth 100000 in
theorem c_S_take_full (l : Launch) (E : Ev) (h xt xo xk xn xb xz xm xs xp xd : Nat) (tn on : Nat) (j : Nat) (hj : j ≤ tn) (ht : tn ≤ 800) (ho : on ≤ 816) (h1 : 800 < j + on) : MC E l yS_take (cT yS_take cS_take 2 (some .int)) rm_S_take [.ref h, .int (nI j)] [ob h 3 [.ref xt, .int (nI tn), .ref xo, .int (nI on), .ref xk, .ref xn, .ref xb, .ref xz, .ref xm, .ref xs, .ref xp, .ref xd]] Unit (fun _ => True) (fun _ => some (.int (-3))) (fun _ => [ob h 3 [.ref xt, .int (nI tn), .ref xo, .int (nI on), .ref xk, .ref xn, .ref xb, .ref xz, .ref xm, .ref xs, .ref xp, .ref xd]]) := by
  refine MC.of (cc := cS_take) (nL := 2) (ret := (some .int)) (by decide) rfl cT_in (Nat.le_of_ble_eq_true rfl) (fun g hg hR => ?_)
  show J E 2 g [ob h 3 [.ref xt, .int (nI tn), .ref xo, .int (nI on), .ref xk, .ref xn, .ref xb, .ref xz, .ref xm, .ref xs, .ref xp, .ref xd]] [(0, .ref h), (1, .int (nI j))] 0 0 0 []
  refine j_aload_n hg 0 dS_take_0 rfl rfl ?_
  refine j_iload_n hg 1 dS_take_1 rfl rfl ?_
  refine j_callV hg (n := 1) (y := yS_tapeReaches) (rm := rm_S_tapeReaches) (Ws := (cT yS_tapeReaches cS_tapeReaches 2 (some .boolean))) (As := [.int (nI j)]) (rest := []) (wr := []) 0 rfl rfl (c_S_tapeReaches_y l E h xt xo xk xn xb xz xm xs xp xd tn on j (by omega) (by omega)) (gdV m131 m133 ms0 m1 m134) rfl (by decide +kernel) ⟨by decide, by decide⟩ rfl rfl (Nat.le_of_ble_eq_true rfl) ⟨by decide, by decide⟩ [0] [] rfl rfl (by decide) (by decide) (by decide) dS_take_2 (fun _ _ => ?_)
  show J E 2 g [ob h 3 [.ref xt, .int (nI tn), .ref xo, .int (nI on), .ref xk, .ref xn, .ref xb, .ref xz, .ref xm, .ref xs, .ref xp, .ref xd]] [(0, .ref h), (1, .int (nI j))] 0 0 5 [.int 1]
  refine j_zne_t hg (tgt := 10) 1 rfl (by omega) (by omega) dS_take_5 (by decide) ?_
  refine j_iload_n hg 1 dS_take_10 rfl rfl ?_
  refine j_aload_n hg 0 dS_take_11 rfl rfl ?_
  refine j_get hg (C := RX3) (T := TX3) (N := 12) inX3 0 rfl rfl 3 (by decide) m86 rfl dS_take_12 ?_
  refine j_iadd hg (v := nI (j + on)) dS_take_15 (nI_add j on) ?_
  refine j_sipush hg (v := 800) dS_take_16 (by decide) ?_
  refine j_nle_f hg (tgt := 25) (j + on) 800 rfl rfl (by omega) (by omega) (by omega) dS_take_19 (by decide) ?_
  refine j_bipush hg (v := -3) dS_take_22 (by decide) ?_
  exact j_iret hg hR rfl () trivial rfl [0] rfl (by decide) (by decide) (by decide) dS_take_24

set_option maxHeartbeats 1000000 in
set_option maxRecDepth 100000 in
theorem c_S_take_ok (l : Launch) (E : Ev) (h xt xo xk xn xb xz xm xs xp xd : Nat) (tn on : Nat) (f o : Nat → Int32) (j : Nat) (hj : j ≤ tn) (ht : tn ≤ 800) (ho : on ≤ 816) (h1 : j + on ≤ 800) (hb : Byt o) : MC E l yS_take (cT yS_take cS_take 2 (some .int)) rm_S_take [.ref h, .int (nI j)] [ob h 3 [.ref xt, .int (nI tn), .ref xo, .int (nI on), .ref xk, .ref xn, .ref xb, .ref xz, .ref xm, .ref xs, .ref xp, .ref xd], aB E xt 800 f, aB E xo 816 o] Unit (fun _ => True) (fun _ => some (.int (nI (j + on)))) (fun _ => [ob h 3 [.ref xt, .int (nI (j + on)), .ref xo, .int (nI on), .ref xk, .ref xn, .ref xb, .ref xz, .ref xm, .ref xs, .ref xp, .ref xd], aB E xt 800 (va_cpy o f 0 j on), aB E xo 816 o]) := by
  refine MC.of (cc := cS_take) (nL := 2) (ret := (some .int)) (by decide) rfl cT_in (Nat.le_of_ble_eq_true rfl) (fun g hg hR => ?_)
  show J E 2 g [ob h 3 [.ref xt, .int (nI tn), .ref xo, .int (nI on), .ref xk, .ref xn, .ref xb, .ref xz, .ref xm, .ref xs, .ref xp, .ref xd], aB E xt 800 f, aB E xo 816 o] [(0, .ref h), (1, .int (nI j))] 0 0 0 []
  refine j_aload_n hg 0 dS_take_0 rfl rfl ?_
  refine j_iload_n hg 1 dS_take_1 rfl rfl ?_
  refine j_callV hg (n := 1) (y := yS_tapeReaches) (rm := rm_S_tapeReaches) (Ws := (cT yS_tapeReaches cS_tapeReaches 2 (some .boolean))) (As := [.int (nI j)]) (rest := []) (wr := [aB E xt 800 f, aB E xo 816 o]) 0 rfl rfl (c_S_tapeReaches_y l E h xt xo xk xn xb xz xm xs xp xd tn on j (by omega) (by omega)) (gdV m131 m133 ms0 m1 m134) rfl (by decide +kernel) ⟨by decide, by decide⟩ rfl rfl (Nat.le_of_ble_eq_true rfl) ⟨by decide, by decide⟩ [0] [1, 2] rfl rfl (by decide) (by decide) (by decide) dS_take_2 (fun _ _ => ?_)
  show J E 2 g [aB E xt 800 f, aB E xo 816 o, ob h 3 [.ref xt, .int (nI tn), .ref xo, .int (nI on), .ref xk, .ref xn, .ref xb, .ref xz, .ref xm, .ref xs, .ref xp, .ref xd]] [(0, .ref h), (1, .int (nI j))] 0 0 5 [.int 1]
  refine j_zne_t hg (tgt := 10) 1 rfl (by omega) (by omega) dS_take_5 (by decide) ?_
  refine j_iload_n hg 1 dS_take_10 rfl rfl ?_
  refine j_aload_n hg 0 dS_take_11 rfl rfl ?_
  refine j_get hg (C := RX3) (T := TX3) (N := 12) inX3 2 rfl rfl 3 (by decide) m86 rfl dS_take_12 ?_
  refine j_iadd hg (v := nI (j + on)) dS_take_15 (nI_add j on) ?_
  refine j_sipush hg (v := 800) dS_take_16 (by decide) ?_
  refine j_nle_t hg (tgt := 25) (j + on) 800 rfl rfl (by omega) (by omega) (by omega) dS_take_19 (by decide) ?_
  refine j_aload_n hg 0 dS_take_25 rfl rfl ?_
  refine j_get hg (C := RX3) (T := TX3) (N := 12) inX3 2 rfl rfl 2 (by decide) m85 rfl dS_take_26 ?_
  refine j_iconst hg (v := 0) dS_take_29 (by decide) ?_
  refine j_aload_n hg 0 dS_take_30 rfl rfl ?_
  refine j_get hg (C := RX3) (T := TX3) (N := 12) inX3 2 rfl rfl 0 (by decide) m83 rfl dS_take_31 ?_
  refine j_iload_n hg 1 dS_take_34 rfl rfl ?_
  refine j_aload_n hg 0 dS_take_35 rfl rfl ?_
  refine j_get hg (C := RX3) (T := TX3) (N := 12) inX3 2 rfl rfl 3 (by decide) m86 rfl dS_take_36 ?_
  refine j_copyB hg (ws' := [aB E xt 800 (va_cpy o f 0 j on), aB E xo 816 o, ob h 3 [.ref xt, .int (nI tn), .ref xo, .int (nI on), .ref xk, .ref xn, .ref xb, .ref xz, .ref xm, .ref xs, .ref xp, .ref xd]]) 1 0 0 j on ⟨m139, m141, m140, m6⟩ rfl rfl rfl rfl rfl (by omega) (by omega) (by omega) (by omega) (fun t _ => hb _) (Nat.le_of_ble_eq_true rfl) (Nat.le_of_ble_eq_true rfl) rfl dS_take_39 ?_
  refine j_aload_n hg 0 dS_take_42 rfl rfl ?_
  refine j_iload_n hg 1 dS_take_43 rfl rfl ?_
  refine j_aload_n hg 0 dS_take_44 rfl rfl ?_
  refine j_get hg (C := RX3) (T := TX3) (N := 12) inX3 2 rfl rfl 3 (by decide) m86 rfl dS_take_45 ?_
  refine j_iadd hg (v := nI (j + on)) dS_take_48 (nI_add j on) ?_
  refine j_put hg (C := RX3) (T := TX3) (N := 12) (ty := .int) (ws' := [aB E xt 800 (va_cpy o f 0 j on), aB E xo 816 o, ob h 3 [.ref xt, .int (nI (j + on)), .ref xo, .int (nI on), .ref xk, .ref xn, .ref xb, .ref xz, .ref xm, .ref xs, .ref xp, .ref xd]]) inX3 tyX3 tyX3_ok nmX3 2 rfl rfl 1 (by decide) m84 rfl (by decide +kernel) rfl rfl (Nat.le_of_ble_eq_true rfl) rfl dS_take_49 ?_
  refine j_aload_n hg 0 dS_take_52 rfl rfl ?_
  refine j_get hg (C := RX3) (T := TX3) (N := 12) inX3 2 rfl rfl 1 (by decide) m84 rfl dS_take_53 ?_
  exact j_iret hg hR rfl () trivial rfl [2, 0, 1] rfl (by decide) (by decide) (by decide) dS_take_56

def rm_S_key : Room := { frames := 1, cells := 0, slots := 0, locals := 18 }
set_option maxHeartbeats 1000000 in
set_option maxRecDepth 100000 in
theorem c_S_key_n (l : Launch) (E : Ev) (h xt xo xk xn xb xz xm xs xp xd : Nat) (tn on : Nat) (h1 : tn ≠ 32) (ht : tn < 2147483648) : MC E l yS_key (cT yS_key cS_key 2 (some .int)) rm_S_key [.ref h] [ob h 3 [.ref xt, .int (nI tn), .ref xo, .int (nI on), .ref xk, .ref xn, .ref xb, .ref xz, .ref xm, .ref xs, .ref xp, .ref xd]] Unit (fun _ => True) (fun _ => some (.int (-1))) (fun _ => [ob h 3 [.ref xt, .int 0, .ref xo, .int (nI on), .ref xk, .ref xn, .ref xb, .ref xz, .ref xm, .ref xs, .ref xp, .ref xd]]) := by
  refine MC.of (cc := cS_key) (nL := 2) (ret := (some .int)) (by decide) rfl cT_in (Nat.le_of_ble_eq_true rfl) (fun g hg hR => ?_)
  show J E 2 g [ob h 3 [.ref xt, .int (nI tn), .ref xo, .int (nI on), .ref xk, .ref xn, .ref xb, .ref xz, .ref xm, .ref xs, .ref xp, .ref xd]] [(0, .ref h)] 0 0 0 []
  refine j_aload_n hg 0 dS_key_0 rfl rfl ?_
  refine j_get hg (C := RX3) (T := TX3) (N := 12) inX3 0 rfl rfl 1 (by decide) m84 rfl dS_key_1 ?_
  refine j_bipush hg (v := 32) dS_key_4 (by decide) ?_
  refine j_nne_t hg (tgt := 13) tn 32 rfl rfl (by omega) (by omega) (by omega) dS_key_6 (by decide) ?_
  refine j_iconst hg (v := 0) dS_key_13 (by decide) ?_
  refine j_istore_n hg (lv' := [(1, .int 0), (0, .ref h)]) dS_key_14 rfl (by decide) rfl ?_
  refine j_iload_n hg 0 dS_key_15 rfl rfl ?_
  refine j_zeq_t hg (tgt := 34) 0 rfl (by omega) (by omega) dS_key_16 (by decide) ?_
  refine j_aload_n hg 1 dS_key_34 rfl rfl ?_
  refine j_iconst hg (v := 0) dS_key_35 (by decide) ?_
  refine j_put hg (C := RX3) (T := TX3) (N := 12) (ty := .int) (ws' := [ob h 3 [.ref xt, .int 0, .ref xo, .int (nI on), .ref xk, .ref xn, .ref xb, .ref xz, .ref xm, .ref xs, .ref xp, .ref xd]]) inX3 tyX3 tyX3_ok nmX3 0 rfl rfl 1 (by decide) m84 rfl (by decide +kernel) rfl rfl (Nat.le_of_ble_eq_true rfl) rfl dS_key_36 ?_
  refine j_iload_n hg 0 dS_key_39 rfl rfl ?_
  refine j_zeq_t hg (tgt := 47) 0 rfl (by omega) (by omega) dS_key_40 (by decide) ?_
  refine j_iconst hg (v := -1) dS_key_47 (by decide) ?_
  exact j_iret hg hR rfl () trivial rfl [0] rfl (by decide) (by decide) (by decide) dS_key_48

set_option maxHeartbeats 1000000 in
set_option maxRecDepth 100000 in
theorem c_S_key_y (l : Launch) (E : Ev) (h xt xo xk xn xb xz xm xs xp xd : Nat) (tn on : Nat) (f fk : Nat → Int32) (h1 : tn = 32) (hb : Byt f) : MC E l yS_key (cT yS_key cS_key 2 (some .int)) rm_S_key [.ref h] [ob h 3 [.ref xt, .int (nI tn), .ref xo, .int (nI on), .ref xk, .ref xn, .ref xb, .ref xz, .ref xm, .ref xs, .ref xp, .ref xd], aB E xt 800 f, aB E xk 32 fk] Unit (fun _ => True) (fun _ => some (.int 0)) (fun _ => [ob h 3 [.ref xt, .int 0, .ref xo, .int (nI on), .ref xk, .ref xn, .ref xb, .ref xz, .ref xm, .ref xs, .ref xp, .ref xd], aB E xt 800 f, aB E xk 32 (va_cpy f fk 0 0 32)]) := by
  refine MC.of (cc := cS_key) (nL := 2) (ret := (some .int)) (by decide) rfl cT_in (Nat.le_of_ble_eq_true rfl) (fun g hg hR => ?_)
  show J E 2 g [ob h 3 [.ref xt, .int (nI tn), .ref xo, .int (nI on), .ref xk, .ref xn, .ref xb, .ref xz, .ref xm, .ref xs, .ref xp, .ref xd], aB E xt 800 f, aB E xk 32 fk] [(0, .ref h)] 0 0 0 []
  refine j_aload_n hg 0 dS_key_0 rfl rfl ?_
  refine j_get hg (C := RX3) (T := TX3) (N := 12) inX3 0 rfl rfl 1 (by decide) m84 rfl dS_key_1 ?_
  refine j_bipush hg (v := 32) dS_key_4 (by decide) ?_
  refine j_nne_f hg (tgt := 13) tn 32 rfl rfl (by omega) (by omega) (by omega) dS_key_6 (by decide) ?_
  refine j_iconst hg (v := 1) dS_key_9 (by decide) ?_
  refine j_goto hg (tgt := 14) dS_key_10 (by decide) ?_
  refine j_istore_n hg (lv' := [(1, .int 1), (0, .ref h)]) dS_key_14 rfl (by decide) rfl ?_
  refine j_iload_n hg 0 dS_key_15 rfl rfl ?_
  refine j_zeq_f hg (tgt := 34) 1 rfl (by omega) (by omega) dS_key_16 (by decide) ?_
  refine j_aload_n hg 1 dS_key_19 rfl rfl ?_
  refine j_get hg (C := RX3) (T := TX3) (N := 12) inX3 0 rfl rfl 0 (by decide) m83 rfl dS_key_20 ?_
  refine j_iconst hg (v := 0) dS_key_23 (by decide) ?_
  refine j_aload_n hg 1 dS_key_24 rfl rfl ?_
  refine j_get hg (C := RX3) (T := TX3) (N := 12) inX3 0 rfl rfl 4 (by decide) m87 rfl dS_key_25 ?_
  refine j_iconst hg (v := 0) dS_key_28 (by decide) ?_
  refine j_bipush hg (v := 32) dS_key_29 (by decide) ?_
  refine j_copyB hg (ws' := [ob h 3 [.ref xt, .int (nI tn), .ref xo, .int (nI on), .ref xk, .ref xn, .ref xb, .ref xz, .ref xm, .ref xs, .ref xp, .ref xd], aB E xt 800 f, aB E xk 32 (va_cpy f fk 0 0 32)]) 1 2 0 0 32 ⟨m139, m141, m140, m6⟩ rfl rfl rfl rfl rfl (by omega) (by omega) (by omega) (by omega) (fun t _ => hb _) (Nat.le_of_ble_eq_true rfl) (Nat.le_of_ble_eq_true rfl) rfl dS_key_31 ?_
  refine j_aload_n hg 1 dS_key_34 rfl rfl ?_
  refine j_iconst hg (v := 0) dS_key_35 (by decide) ?_
  refine j_put hg (C := RX3) (T := TX3) (N := 12) (ty := .int) (ws' := [ob h 3 [.ref xt, .int 0, .ref xo, .int (nI on), .ref xk, .ref xn, .ref xb, .ref xz, .ref xm, .ref xs, .ref xp, .ref xd], aB E xt 800 f, aB E xk 32 (va_cpy f fk 0 0 32)]) inX3 tyX3 tyX3_ok nmX3 0 rfl rfl 1 (by decide) m84 rfl (by decide +kernel) rfl rfl (Nat.le_of_ble_eq_true rfl) rfl dS_key_36 ?_
  refine j_iload_n hg 0 dS_key_39 rfl rfl ?_
  refine j_zeq_f hg (tgt := 47) 1 rfl (by omega) (by omega) dS_key_40 (by decide) ?_
  refine j_iconst hg (v := 0) dS_key_43 (by decide) ?_
  refine j_goto hg (tgt := 48) dS_key_44 (by decide) ?_
  exact j_iret hg hR rfl () trivial rfl [0, 1, 2] rfl (by decide) (by decide) (by decide) dS_key_48

def rm_S_nonce : Room := { frames := 1, cells := 0, slots := 0, locals := 22 }
set_option maxHeartbeats 1000000 in
set_option maxRecDepth 100000 in
theorem c_S_nonce (l : Launch) (E : Ev) (h xt xo xk xn xb xz xm xs xp xd : Nat) (tn on : Nat) (fn : Nat → Int32) (a : Int32) (b : Int64) : MC E l yS_nonce (cT yS_nonce cS_nonce 4 none) rm_S_nonce [.ref h, .int a, .long b] [ob h 3 [.ref xt, .int (nI tn), .ref xo, .int (nI on), .ref xk, .ref xn, .ref xb, .ref xz, .ref xm, .ref xs, .ref xp, .ref xd], aB E xn 12 fn] Unit (fun _ => True) (fun _ => none) (fun _ => [ob h 3 [.ref xt, .int (nI tn), .ref xo, .int (nI on), .ref xk, .ref xn, .ref xb, .ref xz, .ref xm, .ref xs, .ref xp, .ref xd], aB E xn 12 (wh (wh (wh fn 0 a) 4 (lushr b 32).toInt32) 8 b.toInt32)]) := by
  refine MC.of (cc := cS_nonce) (nL := 4) (ret := none) (by decide) rfl cT_in (Nat.le_of_ble_eq_true rfl) (fun g hg hR => ?_)
  show J E 4 g [ob h 3 [.ref xt, .int (nI tn), .ref xo, .int (nI on), .ref xk, .ref xn, .ref xb, .ref xz, .ref xm, .ref xs, .ref xp, .ref xd], aB E xn 12 fn] [(0, .ref h), (1, .int a), (2, .long b)] 0 0 0 []
  refine j_aload_n hg 0 dS_nonce_0 rfl rfl ?_
  refine j_get hg (C := RX3) (T := TX3) (N := 12) inX3 0 rfl rfl 5 (by decide) m88 rfl dS_nonce_1 ?_
  refine j_iconst hg (v := 0) dS_nonce_4 (by decide) ?_
  refine j_iload_n hg 1 dS_nonce_5 rfl rfl ?_
  refine j_callS hg (n := 3) (y := yS_writeHighestFirst) (rm := rm_S_writeHighestFirst) (Ws := (cT yS_writeHighestFirst cS_writeHighestFirst 3 none)) (As := [.ref xn, .int 0, .int a]) (rest := []) (wr := [ob h 3 [.ref xt, .int (nI tn), .ref xo, .int (nI on), .ref xk, .ref xn, .ref xb, .ref xz, .ref xm, .ref xs, .ref xp, .ref xd]]) (c_S_writeHighestFirst l E xn 12 fn 0 a (by omega) (by omega)) (gdS m124 m125 m1 m126) rfl (by decide +kernel) ⟨by decide, by decide⟩ rfl rfl (Nat.le_of_ble_eq_true rfl) ⟨by decide, by decide⟩ [1] [0] rfl rfl (by decide) (by decide) (by decide) dS_nonce_6 (fun _ _ => ?_)
  show J E 4 g [ob h 3 [.ref xt, .int (nI tn), .ref xo, .int (nI on), .ref xk, .ref xn, .ref xb, .ref xz, .ref xm, .ref xs, .ref xp, .ref xd], aB E xn 12 (wh fn 0 a)] [(0, .ref h), (1, .int a), (2, .long b)] 0 0 9 []
  refine j_aload_n hg 0 dS_nonce_9 rfl rfl ?_
  refine j_get hg (C := RX3) (T := TX3) (N := 12) inX3 0 rfl rfl 5 (by decide) m88 rfl dS_nonce_10 ?_
  refine j_iconst hg (v := 4) dS_nonce_13 (by decide) ?_
  refine j_lload_n hg 2 dS_nonce_14 rfl rfl ?_
  refine j_bipush hg (v := 32) dS_nonce_15 (by decide) ?_
  refine j_lushr hg (v := lushr b 32) dS_nonce_17 rfl ?_
  refine j_l2i hg (v := (lushr b 32).toInt32) dS_nonce_18 rfl ?_
  refine j_callS hg (n := 3) (y := yS_writeHighestFirst) (rm := rm_S_writeHighestFirst) (Ws := (cT yS_writeHighestFirst cS_writeHighestFirst 3 none)) (As := [.ref xn, .int 4, .int ((lushr b 32).toInt32)]) (rest := []) (wr := [ob h 3 [.ref xt, .int (nI tn), .ref xo, .int (nI on), .ref xk, .ref xn, .ref xb, .ref xz, .ref xm, .ref xs, .ref xp, .ref xd]]) (c_S_writeHighestFirst l E xn 12 (wh fn 0 a) 4 ((lushr b 32).toInt32) (by omega) (by omega)) (gdS m124 m125 m1 m126) rfl (by decide +kernel) ⟨by decide, by decide⟩ rfl rfl (Nat.le_of_ble_eq_true rfl) ⟨by decide, by decide⟩ [1] [0] rfl rfl (by decide) (by decide) (by decide) dS_nonce_19 (fun _ _ => ?_)
  show J E 4 g [ob h 3 [.ref xt, .int (nI tn), .ref xo, .int (nI on), .ref xk, .ref xn, .ref xb, .ref xz, .ref xm, .ref xs, .ref xp, .ref xd], aB E xn 12 (wh (wh fn 0 a) 4 ((lushr b 32).toInt32))] [(0, .ref h), (1, .int a), (2, .long b)] 0 0 22 []
  refine j_aload_n hg 0 dS_nonce_22 rfl rfl ?_
  refine j_get hg (C := RX3) (T := TX3) (N := 12) inX3 0 rfl rfl 5 (by decide) m88 rfl dS_nonce_23 ?_
  refine j_bipush hg (v := 8) dS_nonce_26 (by decide) ?_
  refine j_lload_n hg 2 dS_nonce_28 rfl rfl ?_
  refine j_l2i hg (v := b.toInt32) dS_nonce_29 rfl ?_
  refine j_callS hg (n := 3) (y := yS_writeHighestFirst) (rm := rm_S_writeHighestFirst) (Ws := (cT yS_writeHighestFirst cS_writeHighestFirst 3 none)) (As := [.ref xn, .int 8, .int b.toInt32]) (rest := []) (wr := [ob h 3 [.ref xt, .int (nI tn), .ref xo, .int (nI on), .ref xk, .ref xn, .ref xb, .ref xz, .ref xm, .ref xs, .ref xp, .ref xd]]) (c_S_writeHighestFirst l E xn 12 (wh (wh fn 0 a) 4 ((lushr b 32).toInt32)) 8 b.toInt32 (by omega) (by omega)) (gdS m124 m125 m1 m126) rfl (by decide +kernel) ⟨by decide, by decide⟩ rfl rfl (Nat.le_of_ble_eq_true rfl) ⟨by decide, by decide⟩ [1] [0] rfl rfl (by decide) (by decide) (by decide) dS_nonce_30 (fun _ _ => ?_)
  show J E 4 g [ob h 3 [.ref xt, .int (nI tn), .ref xo, .int (nI on), .ref xk, .ref xn, .ref xb, .ref xz, .ref xm, .ref xs, .ref xp, .ref xd], aB E xn 12 (wh (wh (wh fn 0 a) 4 ((lushr b 32).toInt32)) 8 b.toInt32)] [(0, .ref h), (1, .int a), (2, .long b)] 0 0 33 []
  exact j_vret hg hR () trivial rfl [0, 1] rfl (by decide) (by decide) (by decide) dS_nonce_33

def rm_S_stream : Room := { frames := 4, cells := 0, slots := 0, locals := 90 }
set_option maxHeartbeats 1000000 in
set_option maxRecDepth 100000 in
theorem c_S_stream (l : Launch) (E : Ev) (h xt xo xk xn xb xz xm xs xp xd : Nat) (tn on : Nat) (c1 c2 : Nat) (f m fk fn : Nat → Int32) (o : Nat → Int32) (c : Int32) : MC E l yS_stream (cT yS_stream cS_stream 2 (some .int)) rm_S_stream [.ref h, .int c] [ob h 3 [.ref xt, .int (nI tn), .ref xo, .int (nI on), .ref xk, .ref xn, .ref xb, .ref xz, .ref xm, .ref xs, .ref xp, .ref xd], ob xs 0 [.ref c1, .ref c2], aI E c1 16 f, aI E c2 16 m, aB E xk 32 fk, aB E xn 12 fn, aB E xo 816 o] Unit (fun _ => True) (fun _ => some (.int 64)) (fun _ => [ob h 3 [.ref xt, .int (nI tn), .ref xo, .int 64, .ref xk, .ref xn, .ref xb, .ref xz, .ref xm, .ref xs, .ref xp, .ref xd], ob xs 0 [.ref c1, .ref c2], aI E c1 16 (layF f fk fn c), aI E c2 16 (mixF f m fk fn c), aB E xk 32 fk, aB E xn 12 fn, aB E xo 816 (fillF o f m fk fn c)]) := by
  refine MC.of (cc := cS_stream) (nL := 2) (ret := (some .int)) (by decide) rfl cT_in (Nat.le_of_ble_eq_true rfl) (fun g hg hR => ?_)
  show J E 2 g [ob h 3 [.ref xt, .int (nI tn), .ref xo, .int (nI on), .ref xk, .ref xn, .ref xb, .ref xz, .ref xm, .ref xs, .ref xp, .ref xd], ob xs 0 [.ref c1, .ref c2], aI E c1 16 f, aI E c2 16 m, aB E xk 32 fk, aB E xn 12 fn, aB E xo 816 o] [(0, .ref h), (1, .int c)] 0 0 0 []
  refine j_aload_n hg 0 dS_stream_0 rfl rfl ?_
  refine j_get hg (C := RX3) (T := TX3) (N := 12) inX3 0 rfl rfl 9 (by decide) m92 rfl dS_stream_1 ?_
  refine j_aload_n hg 0 dS_stream_4 rfl rfl ?_
  refine j_get hg (C := RX3) (T := TX3) (N := 12) inX3 0 rfl rfl 2 (by decide) m85 rfl dS_stream_5 ?_
  refine j_aload_n hg 0 dS_stream_8 rfl rfl ?_
  refine j_get hg (C := RX3) (T := TX3) (N := 12) inX3 0 rfl rfl 4 (by decide) m87 rfl dS_stream_9 ?_
  refine j_aload_n hg 0 dS_stream_12 rfl rfl ?_
  refine j_get hg (C := RX3) (T := TX3) (N := 12) inX3 0 rfl rfl 5 (by decide) m88 rfl dS_stream_13 ?_
  refine j_iload_n hg 1 dS_stream_16 rfl rfl ?_
  refine j_callV hg (n := 4) (y := yC_fill) (rm := rm_C_fill) (Ws := (cT yC_fill cC_fill 6 none)) (As := [.ref xo, .ref xk, .ref xn, .int c]) (rest := []) (wr := [ob h 3 [.ref xt, .int (nI tn), .ref xo, .int (nI on), .ref xk, .ref xn, .ref xb, .ref xz, .ref xm, .ref xs, .ref xp, .ref xd]]) 0 rfl rfl (c_C_fill l E xs c1 c2 xk xn xo 816 o f m fk fn c (by omega) (by omega)) (gdV m154 m155 m156 m2 m157) rfl (by decide +kernel) ⟨by decide, by decide⟩ rfl rfl (Nat.le_of_ble_eq_true rfl) ⟨by decide, by decide⟩ [1, 2, 3, 4, 5, 6] [0] rfl rfl (by decide) (by decide) (by decide) dS_stream_17 (fun _ _ => ?_)
  show J E 2 g [ob h 3 [.ref xt, .int (nI tn), .ref xo, .int (nI on), .ref xk, .ref xn, .ref xb, .ref xz, .ref xm, .ref xs, .ref xp, .ref xd], ob xs 0 [.ref c1, .ref c2], aI E c1 16 (layF f fk fn c), aI E c2 16 (mixF f m fk fn c), aB E xk 32 fk, aB E xn 12 fn, aB E xo 816 (fillF o f m fk fn c)] [(0, .ref h), (1, .int c)] 0 0 20 []
  refine j_aload_n hg 0 dS_stream_20 rfl rfl ?_
  refine j_bipush hg (v := 64) dS_stream_21 (by decide) ?_
  refine j_put hg (C := RX3) (T := TX3) (N := 12) (ty := .int) (ws' := [ob h 3 [.ref xt, .int (nI tn), .ref xo, .int 64, .ref xk, .ref xn, .ref xb, .ref xz, .ref xm, .ref xs, .ref xp, .ref xd], ob xs 0 [.ref c1, .ref c2], aI E c1 16 (layF f fk fn c), aI E c2 16 (mixF f m fk fn c), aB E xk 32 fk, aB E xn 12 fn, aB E xo 816 (fillF o f m fk fn c)]) inX3 tyX3 tyX3_ok nmX3 0 rfl rfl 3 (by decide) m86 rfl (by decide +kernel) rfl rfl (Nat.le_of_ble_eq_true rfl) rfl dS_stream_23 ?_
  refine j_aload_n hg 0 dS_stream_26 rfl rfl ?_
  refine j_get hg (C := RX3) (T := TX3) (N := 12) inX3 0 rfl rfl 3 (by decide) m86 rfl dS_stream_27 ?_
  exact j_iret hg hR rfl () trivial rfl [0, 1, 2, 3, 4, 5, 6] rfl (by decide) (by decide) (by decide) dS_stream_30

def rm_S_octet : Room := { frames := 0, cells := 0, slots := 0, locals := 0 }
set_option maxHeartbeats 1000000 in
set_option maxRecDepth 100000 in
theorem c_S_octet_m (l : Launch) (E : Ev) (h xt xo xk xn xb xz xm xs xp xd : Nat) (tn on : Nat) : MC E l yS_octet (cT yS_octet cS_octet 2 (some .int)) rm_S_octet [.ref h, .int (-1)] [ob h 3 [.ref xt, .int (nI tn), .ref xo, .int (nI on), .ref xk, .ref xn, .ref xb, .ref xz, .ref xm, .ref xs, .ref xp, .ref xd]] Unit (fun _ => True) (fun _ => some (.int (nI on))) (fun _ => [ob h 3 [.ref xt, .int (nI tn), .ref xo, .int (nI on), .ref xk, .ref xn, .ref xb, .ref xz, .ref xm, .ref xs, .ref xp, .ref xd]]) := by
  refine MC.of (cc := cS_octet) (nL := 2) (ret := (some .int)) (by decide) rfl cT_in (Nat.le_of_ble_eq_true rfl) (fun g hg hR => ?_)
  show J E 2 g [ob h 3 [.ref xt, .int (nI tn), .ref xo, .int (nI on), .ref xk, .ref xn, .ref xb, .ref xz, .ref xm, .ref xs, .ref xp, .ref xd]] [(0, .ref h), (1, .int (-1))] 0 0 0 []
  refine j_iload_n hg 1 dS_octet_0 rfl rfl ?_
  refine j_iconst hg (v := -1) dS_octet_1 (by decide) ?_
  refine j_icmp_ne hg (tgt := 10) dS_octet_2 (by decide) (fun c => absurd rfl c) (fun _ => ?_)
  refine j_aload_n hg 0 dS_octet_5 rfl rfl ?_
  refine j_get hg (C := RX3) (T := TX3) (N := 12) inX3 0 rfl rfl 3 (by decide) m86 rfl dS_octet_6 ?_
  exact j_iret hg hR rfl () trivial rfl [0] rfl (by decide) (by decide) (by decide) dS_octet_9
end
section
/-! StreamSeal: octet, sum, digest, mac; the stream over the TAPE; the sum of what is sealed. -/
def rb (n : Int32) (k : Nat) : Option Nat := if 0 ≤ n.toInt ∧ n.toInt < k then some n.toInt.toNat else none
theorem rb_some {n : Int32} {k j : Nat} (h : rb n k = some j) : n = nI j ∧ j < k := by
  unfold rb at h
  split at h
  · rename_i c
    have e := Option.some.inj h
    refine ⟨?_, by omega⟩
    apply Int32.toInt_inj.mp
    have h3 := Int32.toInt_lt n
    rw [nI_toInt (by omega)]
    omega
  · cases h
theorem rb_nI {j k : Nat} (hj : j < 2147483648) (h : j < k) : rb (nI j) k = some j := by
  unfold rb
  rw [nI_toInt hj, if_pos (by omega)]
  rfl
theorem rb_le {j k : Nat} (hj : j < 2147483648) (h : rb (nI j) k = none) : k ≤ j := by
  rcases Nat.lt_or_ge j k with z | z
  · rw [rb_nI hj z] at h
    cases h
  · exact z
theorem stF_lt (u : HS) : (stF u).2.2.2.2.1 < 64 := (by decide : (0 : Nat) < 64)
def ps0 (t p : Nat → Int64) (b key : Nat → Int32) : TPB := (zeros5 t 5, p, kblk b key)
noncomputable def sumX (fa t p : Nat → Int64) (b key row : Nat → Int32) (m : Nat) : TPB := paddF (parts5 (kblk b key) fa 5) (ps0 t p b key) row 0 m ((m + 15) / 16)

set_option maxHeartbeats 1000000 in
set_option maxRecDepth 100000 in
theorem c_S_octet_n (l : Launch) (E : Ev) (h xt xo xk xn xb xz xm xs xp xd : Nat) (tn on : Nat) (n : Int32) (hm : ¬ n = -1) (hn : rb n on = none) (ho : on < 2147483648) : MC E l yS_octet (cT yS_octet cS_octet 2 (some .int)) rm_S_octet [.ref h, .int n] [ob h 3 [.ref xt, .int (nI tn), .ref xo, .int (nI on), .ref xk, .ref xn, .ref xb, .ref xz, .ref xm, .ref xs, .ref xp, .ref xd]] Unit (fun _ => True) (fun _ => some (.int (-2))) (fun _ => [ob h 3 [.ref xt, .int (nI tn), .ref xo, .int (nI on), .ref xk, .ref xn, .ref xb, .ref xz, .ref xm, .ref xs, .ref xp, .ref xd]]) := by
  refine MC.of (cc := cS_octet) (nL := 2) (ret := (some .int)) (by decide) rfl cT_in (Nat.le_of_ble_eq_true rfl) (fun g hg hR => ?_)
  show J E 2 g [ob h 3 [.ref xt, .int (nI tn), .ref xo, .int (nI on), .ref xk, .ref xn, .ref xb, .ref xz, .ref xm, .ref xs, .ref xp, .ref xd]] [(0, .ref h), (1, .int n)] 0 0 0 []
  refine j_iload_n hg 1 dS_octet_0 rfl rfl ?_
  refine j_iconst hg (v := -1) dS_octet_1 (by decide) ?_
  refine j_icmp_ne hg (tgt := 10) dS_octet_2 (by decide) (fun _ => ?_) (fun c => absurd c hm)
  refine j_iload_n hg 1 dS_octet_10 rfl rfl ?_
  refine j_if_lt hg (tgt := 22) dS_octet_11 (by decide) (fun hc => ?_) (fun hc => ?_)
  · skip
    refine j_bipush hg (v := -2) dS_octet_22 (by decide) ?_
    exact j_iret hg hR rfl () trivial rfl [0] rfl (by decide) (by decide) (by decide) dS_octet_24
  · skip
    obtain ⟨j, hj, rfl⟩ := nI_of hc
    refine j_iload_n hg 1 dS_octet_14 rfl rfl ?_
    refine j_aload_n hg 0 dS_octet_15 rfl rfl ?_
    refine j_get hg (C := RX3) (T := TX3) (N := 12) inX3 0 rfl rfl 3 (by decide) m86 rfl dS_octet_16 ?_
    refine j_nlt_f hg (tgt := 25) j on rfl rfl (by omega) (by omega) (rb_le hj hn) dS_octet_19 (by decide) ?_
    refine j_bipush hg (v := -2) dS_octet_22 (by decide) ?_
    exact j_iret hg hR rfl () trivial rfl [0] rfl (by decide) (by decide) (by decide) dS_octet_24

theorem nI_nm1 {j : Nat} (hj : j < 2147483648) : ¬ nI j = -1 := by
  intro h
  have h1 := nI_toInt hj
  rw [h] at h1
  have h2 : (-1 : Int32).toInt = -1 := by decide
  omega

set_option maxHeartbeats 1000000 in
set_option maxRecDepth 100000 in
theorem c_S_octet_y (l : Launch) (E : Ev) (h xt xo xk xn xb xz xm xs xp xd : Nat) (tn on : Nat) (o : Nat → Int32) (j : Nat) (hj : j < on) (ho : on ≤ 816) : MC E l yS_octet (cT yS_octet cS_octet 2 (some .int)) rm_S_octet [.ref h, .int (nI j)] [ob h 3 [.ref xt, .int (nI tn), .ref xo, .int (nI on), .ref xk, .ref xn, .ref xb, .ref xz, .ref xm, .ref xs, .ref xp, .ref xd], aB E xo 816 o] Unit (fun _ => True) (fun _ => some (.int (o j &&& 255))) (fun _ => [ob h 3 [.ref xt, .int (nI tn), .ref xo, .int (nI on), .ref xk, .ref xn, .ref xb, .ref xz, .ref xm, .ref xs, .ref xp, .ref xd], aB E xo 816 o]) := by
  refine MC.of (cc := cS_octet) (nL := 2) (ret := (some .int)) (by decide) rfl cT_in (Nat.le_of_ble_eq_true rfl) (fun g hg hR => ?_)
  show J E 2 g [ob h 3 [.ref xt, .int (nI tn), .ref xo, .int (nI on), .ref xk, .ref xn, .ref xb, .ref xz, .ref xm, .ref xs, .ref xp, .ref xd], aB E xo 816 o] [(0, .ref h), (1, .int (nI j))] 0 0 0 []
  refine j_iload_n hg 1 dS_octet_0 rfl rfl ?_
  refine j_iconst hg (v := -1) dS_octet_1 (by decide) ?_
  refine j_icmp_ne hg (tgt := 10) dS_octet_2 (by decide) (fun _ => ?_) (fun c => absurd c (nI_nm1 (by omega)))
  refine j_iload_n hg 1 dS_octet_10 rfl rfl ?_
  refine j_zlt_f hg (tgt := 22) j rfl (by omega) (by omega) dS_octet_11 (by decide) ?_
  refine j_iload_n hg 1 dS_octet_14 rfl rfl ?_
  refine j_aload_n hg 0 dS_octet_15 rfl rfl ?_
  refine j_get hg (C := RX3) (T := TX3) (N := 12) inX3 0 rfl rfl 3 (by decide) m86 rfl dS_octet_16 ?_
  refine j_nlt_t hg (tgt := 25) j on rfl rfl (by omega) (by omega) (by omega) dS_octet_19 (by decide) ?_
  refine j_aload_n hg 0 dS_octet_25 rfl rfl ?_
  refine j_get hg (C := RX3) (T := TX3) (N := 12) inX3 0 rfl rfl 2 (by decide) m85 rfl dS_octet_26 ?_
  refine j_iload_n hg 1 dS_octet_29 rfl rfl ?_
  refine j_bald hg (v := o j) 1 j rfl rfl (by omega) (by omega) rfl dS_octet_30 ?_
  refine j_sipush hg (v := 255) dS_octet_31 (by decide) ?_
  refine j_iand hg (v := (o j) &&& 255) dS_octet_34 rfl ?_
  exact j_iret hg hR rfl () trivial rfl [0, 1] rfl (by decide) (by decide) (by decide) dS_octet_35

def rm_S_sum : Room := { frames := 4, cells := 0, slots := 0, locals := 101 }
set_option maxHeartbeats 1000000 in
set_option maxRecDepth 100000 in
theorem c_S_sum (l : Launch) (E : Ev) (h xt xo xk xn xb xz xm xs xp xd : Nat) (tn on : Nat) (p1 p2 p3 p4 p5 p6 : Nat) (fa t p wo : Nat → Int64) (la b : Nat → Int32) (fk ta o : Nat → Int32) (hk : Byt fk) (ht : Byt ta) (h1 : tn ≤ 800) : MC E l yS_sum (cT yS_sum cS_sum 1 (some .int)) rm_S_sum [.ref h] [ob h 3 [.ref xt, .int (nI tn), .ref xo, .int (nI on), .ref xk, .ref xn, .ref xb, .ref xz, .ref xm, .ref xs, .ref xp, .ref xd], ob xp 1 [.ref p1, .ref p2, .ref p3, .ref p4, .ref p5, .ref p6], aL E p1 5 fa, aL E p2 5 t, aL E p3 5 p, aL E p4 4 wo, aI E p5 4 la, aB E p6 17 b, aB E xk 32 fk, aB E xt 800 ta, aB E xo 816 o] Unit (fun _ => True) (fun _ => some (.int 16)) (fun _ => [ob h 3 [.ref xt, .int 0, .ref xo, .int 16, .ref xk, .ref xn, .ref xb, .ref xz, .ref xm, .ref xs, .ref xp, .ref xd], ob xp 1 [.ref p1, .ref p2, .ref p3, .ref p4, .ref p5, .ref p6], aL E p1 5 (parts5 (kblk b fk) fa 5), aL E p2 5 (finT (sumX fa t p b fk ta tn).1 (sumX fa t p b fk ta tn).2.1), aL E p3 5 (tpP (car (sumX fa t p b fk ta tn).1) (sumX fa t p b fk ta tn).2.1 5), aL E p4 4 (words4 (finT (sumX fa t p b fk ta tn).1 (sumX fa t p b fk ta tn).2.1) wo), aI E p5 4 (last4 fk la 4), aB E p6 17 ((sumX fa t p b fk ta tn).2.2), aB E xk 32 fk, aB E xt 800 ta, aB E xo 816 ((foS (words4 (finT (sumX fa t p b fk ta tn).1 (sumX fa t p b fk ta tn).2.1) wo) (last4 fk la 4) o 0 4).2)]) := by
  refine MC.of (cc := cS_sum) (nL := 1) (ret := (some .int)) (by decide) rfl cT_in (Nat.le_of_ble_eq_true rfl) (fun g hg hR => ?_)
  show J E 1 g [ob h 3 [.ref xt, .int (nI tn), .ref xo, .int (nI on), .ref xk, .ref xn, .ref xb, .ref xz, .ref xm, .ref xs, .ref xp, .ref xd], ob xp 1 [.ref p1, .ref p2, .ref p3, .ref p4, .ref p5, .ref p6], aL E p1 5 fa, aL E p2 5 t, aL E p3 5 p, aL E p4 4 wo, aI E p5 4 la, aB E p6 17 b, aB E xk 32 fk, aB E xt 800 ta, aB E xo 816 o] [(0, .ref h)] 0 0 0 []
  refine j_aload_n hg 0 dS_sum_0 rfl rfl ?_
  refine j_get hg (C := RX3) (T := TX3) (N := 12) inX3 0 rfl rfl 10 (by decide) m93 rfl dS_sum_1 ?_
  refine j_aload_n hg 0 dS_sum_4 rfl rfl ?_
  refine j_get hg (C := RX3) (T := TX3) (N := 12) inX3 0 rfl rfl 4 (by decide) m87 rfl dS_sum_5 ?_
  refine j_callV hg (n := 1) (y := yP_start) (rm := rm_P_start) (Ws := (cT yP_start cP_start 3 none)) (As := [.ref xk]) (rest := []) (wr := [ob h 3 [.ref xt, .int (nI tn), .ref xo, .int (nI on), .ref xk, .ref xn, .ref xb, .ref xz, .ref xm, .ref xs, .ref xp, .ref xd], aL E p3 5 p, aL E p4 4 wo, aB E xt 800 ta, aB E xo 816 o]) 0 rfl rfl (c_P_start l E xp p1 p2 p3 p4 p5 p6 xk 32 fa t la b fk hk (by omega) (by omega)) (gdV m192 m193 m194 m3 m195) rfl (by decide +kernel) ⟨by decide, by decide⟩ rfl rfl (Nat.le_of_ble_eq_true rfl) ⟨by decide, by decide⟩ [1, 2, 3, 6, 7, 8] [0, 4, 5, 9, 10] rfl rfl (by decide) (by decide) (by decide) dS_sum_8 (fun _ _ => ?_)
  show J E 1 g [ob h 3 [.ref xt, .int (nI tn), .ref xo, .int (nI on), .ref xk, .ref xn, .ref xb, .ref xz, .ref xm, .ref xs, .ref xp, .ref xd], aL E p3 5 p, aL E p4 4 wo, aB E xt 800 ta, aB E xo 816 o, ob xp 1 [.ref p1, .ref p2, .ref p3, .ref p4, .ref p5, .ref p6], aL E p1 5 (parts5 (kblk b fk) fa 5), aL E p2 5 (zeros5 t 5), aI E p5 4 (last4 fk la 4), aB E p6 17 (kblk b fk), aB E xk 32 fk] [(0, .ref h)] 0 0 11 []
  refine j_sub [0, 5, 6, 7, 1, 2, 8, 9, 10, 3, 4] (ws' := [ob h 3 [.ref xt, .int (nI tn), .ref xo, .int (nI on), .ref xk, .ref xn, .ref xb, .ref xz, .ref xm, .ref xs, .ref xp, .ref xd], ob xp 1 [.ref p1, .ref p2, .ref p3, .ref p4, .ref p5, .ref p6], aL E p1 5 (parts5 (kblk b fk) fa 5), aL E p2 5 (zeros5 t 5), aL E p3 5 p, aL E p4 4 wo, aI E p5 4 (last4 fk la 4), aB E p6 17 (kblk b fk), aB E xk 32 fk, aB E xt 800 ta, aB E xo 816 o]) rfl (by decide) ?_
  show J E 1 g [ob h 3 [.ref xt, .int (nI tn), .ref xo, .int (nI on), .ref xk, .ref xn, .ref xb, .ref xz, .ref xm, .ref xs, .ref xp, .ref xd], ob xp 1 [.ref p1, .ref p2, .ref p3, .ref p4, .ref p5, .ref p6], aL E p1 5 (parts5 (kblk b fk) fa 5), aL E p2 5 ((ps0 t p b fk).1), aL E p3 5 ((ps0 t p b fk).2.1), aL E p4 4 wo, aI E p5 4 (last4 fk la 4), aB E p6 17 ((ps0 t p b fk).2.2), aB E xk 32 fk, aB E xt 800 ta, aB E xo 816 o] [(0, .ref h)] 0 0 11 []
  refine j_aload_n hg 0 dS_sum_11 rfl rfl ?_
  refine j_get hg (C := RX3) (T := TX3) (N := 12) inX3 0 rfl rfl 10 (by decide) m93 rfl dS_sum_12 ?_
  refine j_aload_n hg 0 dS_sum_15 rfl rfl ?_
  refine j_get hg (C := RX3) (T := TX3) (N := 12) inX3 0 rfl rfl 0 (by decide) m83 rfl dS_sum_16 ?_
  refine j_iconst hg (v := 0) dS_sum_19 (by decide) ?_
  refine j_aload_n hg 0 dS_sum_20 rfl rfl ?_
  refine j_get hg (C := RX3) (T := TX3) (N := 12) inX3 0 rfl rfl 1 (by decide) m84 rfl dS_sum_21 ?_
  refine j_callV hg (n := 3) (y := yP_add) (rm := rm_P_add) (Ws := (cT yP_add cP_add 6 none)) (As := [.ref xt, .int 0, .int (nI tn)]) (rest := []) (wr := [ob h 3 [.ref xt, .int (nI tn), .ref xo, .int (nI on), .ref xk, .ref xn, .ref xb, .ref xz, .ref xm, .ref xs, .ref xp, .ref xd], aL E p4 4 wo, aI E p5 4 (last4 fk la 4), aB E xk 32 fk, aB E xo 816 o]) 0 rfl rfl (c_P_add l E xp p1 p2 p3 p4 p5 p6 xt 800 (parts5 (kblk b fk) fa 5) ((ps0 t p b fk)) ta 0 tn ht (by omega) (by omega)) (gdV m208 m209 m210 m3 m211) rfl (by decide +kernel) ⟨by decide, by decide⟩ rfl rfl (Nat.le_of_ble_eq_true rfl) ⟨by decide, by decide⟩ [1, 2, 3, 4, 7, 9] [0, 5, 6, 8, 10] rfl rfl (by decide) (by decide) (by decide) dS_sum_24 (fun _ _ => ?_)
  show J E 1 g [ob h 3 [.ref xt, .int (nI tn), .ref xo, .int (nI on), .ref xk, .ref xn, .ref xb, .ref xz, .ref xm, .ref xs, .ref xp, .ref xd], aL E p4 4 wo, aI E p5 4 (last4 fk la 4), aB E xk 32 fk, aB E xo 816 o, ob xp 1 [.ref p1, .ref p2, .ref p3, .ref p4, .ref p5, .ref p6], aL E p1 5 (parts5 (kblk b fk) fa 5), aL E p2 5 ((paddF (parts5 (kblk b fk) fa 5) ((ps0 t p b fk)) ta 0 tn ((tn + 15) / 16)).1), aL E p3 5 ((paddF (parts5 (kblk b fk) fa 5) ((ps0 t p b fk)) ta 0 tn ((tn + 15) / 16)).2.1), aB E p6 17 ((paddF (parts5 (kblk b fk) fa 5) ((ps0 t p b fk)) ta 0 tn ((tn + 15) / 16)).2.2), aB E xt 800 ta] [(0, .ref h)] 0 0 27 []
  refine j_sub [0, 5, 6, 7, 8, 1, 2, 9, 3, 10, 4] (ws' := [ob h 3 [.ref xt, .int (nI tn), .ref xo, .int (nI on), .ref xk, .ref xn, .ref xb, .ref xz, .ref xm, .ref xs, .ref xp, .ref xd], ob xp 1 [.ref p1, .ref p2, .ref p3, .ref p4, .ref p5, .ref p6], aL E p1 5 (parts5 (kblk b fk) fa 5), aL E p2 5 ((paddF (parts5 (kblk b fk) fa 5) ((ps0 t p b fk)) ta 0 tn ((tn + 15) / 16)).1), aL E p3 5 ((paddF (parts5 (kblk b fk) fa 5) ((ps0 t p b fk)) ta 0 tn ((tn + 15) / 16)).2.1), aL E p4 4 wo, aI E p5 4 (last4 fk la 4), aB E p6 17 ((paddF (parts5 (kblk b fk) fa 5) ((ps0 t p b fk)) ta 0 tn ((tn + 15) / 16)).2.2), aB E xk 32 fk, aB E xt 800 ta, aB E xo 816 o]) rfl (by decide) ?_
  show J E 1 g [ob h 3 [.ref xt, .int (nI tn), .ref xo, .int (nI on), .ref xk, .ref xn, .ref xb, .ref xz, .ref xm, .ref xs, .ref xp, .ref xd], ob xp 1 [.ref p1, .ref p2, .ref p3, .ref p4, .ref p5, .ref p6], aL E p1 5 (parts5 (kblk b fk) fa 5), aL E p2 5 ((sumX fa t p b fk ta tn).1), aL E p3 5 ((sumX fa t p b fk ta tn).2.1), aL E p4 4 wo, aI E p5 4 (last4 fk la 4), aB E p6 17 ((sumX fa t p b fk ta tn).2.2), aB E xk 32 fk, aB E xt 800 ta, aB E xo 816 o] [(0, .ref h)] 0 0 27 []
  refine j_aload_n hg 0 dS_sum_27 rfl rfl ?_
  refine j_get hg (C := RX3) (T := TX3) (N := 12) inX3 0 rfl rfl 10 (by decide) m93 rfl dS_sum_28 ?_
  refine j_aload_n hg 0 dS_sum_31 rfl rfl ?_
  refine j_get hg (C := RX3) (T := TX3) (N := 12) inX3 0 rfl rfl 2 (by decide) m85 rfl dS_sum_32 ?_
  refine j_iconst hg (v := 0) dS_sum_35 (by decide) ?_
  refine j_callV hg (n := 2) (y := yP_finish) (rm := rm_P_finish) (Ws := (cT yP_finish cP_finish 6 none)) (As := [.ref xo, .int 0]) (rest := []) (wr := [ob h 3 [.ref xt, .int (nI tn), .ref xo, .int (nI on), .ref xk, .ref xn, .ref xb, .ref xz, .ref xm, .ref xs, .ref xp, .ref xd], aL E p1 5 (parts5 (kblk b fk) fa 5), aB E p6 17 ((sumX fa t p b fk ta tn).2.2), aB E xk 32 fk, aB E xt 800 ta]) 0 rfl rfl (c_P_finish l E xp p1 p2 p3 p4 p5 p6 xo 816 ((sumX fa t p b fk ta tn).1) ((sumX fa t p b fk ta tn).2.1) wo (last4 fk la 4) o 0 (by omega) (by omega)) (gdV m231 m232 m233 m3 m234) rfl (by decide +kernel) ⟨by decide, by decide⟩ rfl rfl (Nat.le_of_ble_eq_true rfl) ⟨by decide, by decide⟩ [1, 3, 4, 5, 6, 10] [0, 2, 7, 8, 9] rfl rfl (by decide) (by decide) (by decide) dS_sum_36 (fun _ _ => ?_)
  show J E 1 g [ob h 3 [.ref xt, .int (nI tn), .ref xo, .int (nI on), .ref xk, .ref xn, .ref xb, .ref xz, .ref xm, .ref xs, .ref xp, .ref xd], aL E p1 5 (parts5 (kblk b fk) fa 5), aB E p6 17 ((sumX fa t p b fk ta tn).2.2), aB E xk 32 fk, aB E xt 800 ta, ob xp 1 [.ref p1, .ref p2, .ref p3, .ref p4, .ref p5, .ref p6], aL E p2 5 (finT ((sumX fa t p b fk ta tn).1) ((sumX fa t p b fk ta tn).2.1)), aL E p3 5 (tpP (car ((sumX fa t p b fk ta tn).1)) ((sumX fa t p b fk ta tn).2.1) 5), aL E p4 4 (words4 (finT ((sumX fa t p b fk ta tn).1) ((sumX fa t p b fk ta tn).2.1)) wo), aI E p5 4 (last4 fk la 4), aB E xo 816 ((foS (words4 (finT ((sumX fa t p b fk ta tn).1) ((sumX fa t p b fk ta tn).2.1)) wo) (last4 fk la 4) o 0 4).2)] [(0, .ref h)] 0 0 39 []
  refine j_aload_n hg 0 dS_sum_39 rfl rfl ?_
  refine j_bipush hg (v := 16) dS_sum_40 (by decide) ?_
  refine j_put hg (C := RX3) (T := TX3) (N := 12) (ty := .int) (ws' := [ob h 3 [.ref xt, .int (nI tn), .ref xo, .int 16, .ref xk, .ref xn, .ref xb, .ref xz, .ref xm, .ref xs, .ref xp, .ref xd], aL E p1 5 (parts5 (kblk b fk) fa 5), aB E p6 17 ((sumX fa t p b fk ta tn).2.2), aB E xk 32 fk, aB E xt 800 ta, ob xp 1 [.ref p1, .ref p2, .ref p3, .ref p4, .ref p5, .ref p6], aL E p2 5 (finT ((sumX fa t p b fk ta tn).1) ((sumX fa t p b fk ta tn).2.1)), aL E p3 5 (tpP (car ((sumX fa t p b fk ta tn).1)) ((sumX fa t p b fk ta tn).2.1) 5), aL E p4 4 (words4 (finT ((sumX fa t p b fk ta tn).1) ((sumX fa t p b fk ta tn).2.1)) wo), aI E p5 4 (last4 fk la 4), aB E xo 816 ((foS (words4 (finT ((sumX fa t p b fk ta tn).1) ((sumX fa t p b fk ta tn).2.1)) wo) (last4 fk la 4) o 0 4).2)]) inX3 tyX3 tyX3_ok nmX3 0 rfl rfl 3 (by decide) m86 rfl (by decide +kernel) rfl rfl (Nat.le_of_ble_eq_true rfl) rfl dS_sum_42 ?_
  refine j_aload_n hg 0 dS_sum_45 rfl rfl ?_
  refine j_iconst hg (v := 0) dS_sum_46 (by decide) ?_
  refine j_put hg (C := RX3) (T := TX3) (N := 12) (ty := .int) (ws' := [ob h 3 [.ref xt, .int 0, .ref xo, .int 16, .ref xk, .ref xn, .ref xb, .ref xz, .ref xm, .ref xs, .ref xp, .ref xd], aL E p1 5 (parts5 (kblk b fk) fa 5), aB E p6 17 ((sumX fa t p b fk ta tn).2.2), aB E xk 32 fk, aB E xt 800 ta, ob xp 1 [.ref p1, .ref p2, .ref p3, .ref p4, .ref p5, .ref p6], aL E p2 5 (finT ((sumX fa t p b fk ta tn).1) ((sumX fa t p b fk ta tn).2.1)), aL E p3 5 (tpP (car ((sumX fa t p b fk ta tn).1)) ((sumX fa t p b fk ta tn).2.1) 5), aL E p4 4 (words4 (finT ((sumX fa t p b fk ta tn).1) ((sumX fa t p b fk ta tn).2.1)) wo), aI E p5 4 (last4 fk la 4), aB E xo 816 ((foS (words4 (finT ((sumX fa t p b fk ta tn).1) ((sumX fa t p b fk ta tn).2.1)) wo) (last4 fk la 4) o 0 4).2)]) inX3 tyX3 tyX3_ok nmX3 0 rfl rfl 1 (by decide) m84 rfl (by decide +kernel) rfl rfl (Nat.le_of_ble_eq_true rfl) rfl dS_sum_47 ?_
  refine j_aload_n hg 0 dS_sum_50 rfl rfl ?_
  refine j_get hg (C := RX3) (T := TX3) (N := 12) inX3 0 rfl rfl 3 (by decide) m86 rfl dS_sum_51 ?_
  exact j_iret hg hR rfl () trivial rfl [0, 5, 1, 6, 7, 8, 9, 2, 3, 4, 10] rfl (by decide) (by decide) (by decide) dS_sum_54

def rm_S_digest : Room := { frames := 5, cells := 0, slots := 0, locals := 115 }
set_option maxHeartbeats 1000000 in
set_option maxRecDepth 100000 in
theorem c_S_digest (l : Launch) (E : Ev) (h xt xo xk xn xb xz xm xs xp xd : Nat) (tn on : Nat) (d1 d2 d3 d4 : Nat) (u : HS) (ta o : Nat → Int32) (ht : Byt ta) (h1 : tn ≤ 800) : MC E l yS_digest (cT yS_digest cS_digest 1 (some .int)) rm_S_digest [.ref h] [ob h 3 [.ref xt, .int (nI tn), .ref xo, .int (nI on), .ref xk, .ref xn, .ref xb, .ref xz, .ref xm, .ref xs, .ref xp, .ref xd], ob xd 2 [.ref d1, .ref d2, .ref d3, .ref d4, .int (nI u.2.2.2.2.1), .int (nI u.2.2.2.2.2)], aI E d1 8 u.1, aI E d2 64 u.2.1, aI E d3 8 u.2.2.1, aB E d4 64 u.2.2.2.1, aB E xt 800 ta, aB E xo 816 o] Unit (fun _ => True) (fun _ => some (.int 32)) (fun _ => [ob h 3 [.ref xt, .int 0, .ref xo, .int 32, .ref xk, .ref xn, .ref xb, .ref xz, .ref xm, .ref xs, .ref xp, .ref xd], ob xd 2 [.ref d1, .ref d2, .ref d3, .ref d4, .int (nI ((finF (addF (stF u) ta tn)).2.2.2.2.1)), .int (nI ((finF (addF (stF u) ta tn)).2.2.2.2.2))], aI E d1 8 ((finF (addF (stF u) ta tn)).1), aI E d2 64 ((finF (addF (stF u) ta tn)).2.1), aI E d3 8 ((finF (addF (stF u) ta tn)).2.2.1), aB E d4 64 ((finF (addF (stF u) ta tn)).2.2.2.1), aB E xt 800 ta, aB E xo 816 (outH o (finF (addF (stF u) ta tn)).1 8)]) := by
  refine MC.of (cc := cS_digest) (nL := 1) (ret := (some .int)) (by decide) rfl cT_in (Nat.le_of_ble_eq_true rfl) (fun g hg hR => ?_)
  show J E 1 g [ob h 3 [.ref xt, .int (nI tn), .ref xo, .int (nI on), .ref xk, .ref xn, .ref xb, .ref xz, .ref xm, .ref xs, .ref xp, .ref xd], ob xd 2 [.ref d1, .ref d2, .ref d3, .ref d4, .int (nI u.2.2.2.2.1), .int (nI u.2.2.2.2.2)], aI E d1 8 u.1, aI E d2 64 u.2.1, aI E d3 8 u.2.2.1, aB E d4 64 u.2.2.2.1, aB E xt 800 ta, aB E xo 816 o] [(0, .ref h)] 0 0 0 []
  refine j_aload_n hg 0 dS_digest_0 rfl rfl ?_
  refine j_get hg (C := RX3) (T := TX3) (N := 12) inX3 0 rfl rfl 11 (by decide) m94 rfl dS_digest_1 ?_
  refine j_callV hg (n := 0) (y := yH_start) (rm := rm_H_start) (Ws := (cT yH_start cH_start 1 none)) (As := []) (rest := []) (wr := [ob h 3 [.ref xt, .int (nI tn), .ref xo, .int (nI on), .ref xk, .ref xn, .ref xb, .ref xz, .ref xm, .ref xs, .ref xp, .ref xd], aB E xt 800 ta, aB E xo 816 o]) 0 rfl rfl (c_H_start l E xd d1 d2 d3 d4 u) (gdV m270 m271 m272 m4 m273) rfl (by decide +kernel) ⟨by decide, by decide⟩ rfl rfl (Nat.le_of_ble_eq_true rfl) ⟨by decide, by decide⟩ [1, 2, 3, 4, 5] [0, 6, 7] rfl rfl (by decide) (by decide) (by decide) dS_digest_4 (fun _ _ => ?_)
  show J E 1 g [ob h 3 [.ref xt, .int (nI tn), .ref xo, .int (nI on), .ref xk, .ref xn, .ref xb, .ref xz, .ref xm, .ref xs, .ref xp, .ref xd], aB E xt 800 ta, aB E xo 816 o, ob xd 2 [.ref d1, .ref d2, .ref d3, .ref d4, .int (nI ((stF u).2.2.2.2.1)), .int (nI ((stF u).2.2.2.2.2))], aI E d1 8 ((stF u).1), aI E d2 64 ((stF u).2.1), aI E d3 8 ((stF u).2.2.1), aB E d4 64 ((stF u).2.2.2.1)] [(0, .ref h)] 0 0 7 []
  refine j_aload_n hg 0 dS_digest_7 rfl rfl ?_
  refine j_get hg (C := RX3) (T := TX3) (N := 12) inX3 0 rfl rfl 11 (by decide) m94 rfl dS_digest_8 ?_
  refine j_aload_n hg 0 dS_digest_11 rfl rfl ?_
  refine j_get hg (C := RX3) (T := TX3) (N := 12) inX3 0 rfl rfl 0 (by decide) m83 rfl dS_digest_12 ?_
  refine j_aload_n hg 0 dS_digest_15 rfl rfl ?_
  refine j_get hg (C := RX3) (T := TX3) (N := 12) inX3 0 rfl rfl 1 (by decide) m84 rfl dS_digest_16 ?_
  refine j_callV hg (n := 2) (y := yH_add) (rm := rm_H_add) (Ws := (cT yH_add cH_add 4 none)) (As := [.ref xt, .int (nI tn)]) (rest := []) (wr := [ob h 3 [.ref xt, .int (nI tn), .ref xo, .int (nI on), .ref xk, .ref xn, .ref xb, .ref xz, .ref xm, .ref xs, .ref xp, .ref xd], aB E xo 816 o]) 0 rfl rfl (c_H_add l E xd d1 d2 d3 d4 ((stF u)) xt 800 tn ta (stF_lt _) ht (by omega) (by omega)) (gdV m277 m278 m279 m4 m280) rfl (by decide +kernel) ⟨by decide, by decide⟩ rfl rfl (Nat.le_of_ble_eq_true rfl) ⟨by decide, by decide⟩ [3, 4, 5, 6, 7, 1] [0, 2] rfl rfl (by decide) (by decide) (by decide) dS_digest_19 (fun _ _ => ?_)
  show J E 1 g [ob h 3 [.ref xt, .int (nI tn), .ref xo, .int (nI on), .ref xk, .ref xn, .ref xb, .ref xz, .ref xm, .ref xs, .ref xp, .ref xd], aB E xo 816 o, ob xd 2 [.ref d1, .ref d2, .ref d3, .ref d4, .int (nI ((addF ((stF u)) ta tn).2.2.2.2.1)), .int (nI ((addF ((stF u)) ta tn).2.2.2.2.2))], aI E d1 8 ((addF ((stF u)) ta tn).1), aI E d2 64 ((addF ((stF u)) ta tn).2.1), aI E d3 8 ((addF ((stF u)) ta tn).2.2.1), aB E d4 64 ((addF ((stF u)) ta tn).2.2.2.1), aB E xt 800 ta] [(0, .ref h)] 0 0 22 []
  refine j_aload_n hg 0 dS_digest_22 rfl rfl ?_
  refine j_get hg (C := RX3) (T := TX3) (N := 12) inX3 0 rfl rfl 11 (by decide) m94 rfl dS_digest_23 ?_
  refine j_aload_n hg 0 dS_digest_26 rfl rfl ?_
  refine j_get hg (C := RX3) (T := TX3) (N := 12) inX3 0 rfl rfl 2 (by decide) m85 rfl dS_digest_27 ?_
  refine j_callV hg (n := 1) (y := yH_finish) (rm := rm_H_finish) (Ws := (cT yH_finish cH_finish 5 none)) (As := [.ref xo]) (rest := []) (wr := [ob h 3 [.ref xt, .int (nI tn), .ref xo, .int (nI on), .ref xk, .ref xn, .ref xb, .ref xz, .ref xm, .ref xs, .ref xp, .ref xd], aB E xt 800 ta]) 0 rfl rfl (c_H_finish l E xd d1 d2 d3 d4 ((addF ((stF u)) ta tn)) xo 816 o (addF_lt (stF_lt _) _) (by omega) (by omega)) (gdV m305 m306 m307 m4 m308) rfl (by decide +kernel) ⟨by decide, by decide⟩ rfl rfl (Nat.le_of_ble_eq_true rfl) ⟨by decide, by decide⟩ [2, 3, 4, 5, 6, 1] [0, 7] rfl rfl (by decide) (by decide) (by decide) dS_digest_30 (fun _ _ => ?_)
  show J E 1 g [ob h 3 [.ref xt, .int (nI tn), .ref xo, .int (nI on), .ref xk, .ref xn, .ref xb, .ref xz, .ref xm, .ref xs, .ref xp, .ref xd], aB E xt 800 ta, ob xd 2 [.ref d1, .ref d2, .ref d3, .ref d4, .int (nI ((finF ((addF ((stF u)) ta tn))).2.2.2.2.1)), .int (nI ((finF ((addF ((stF u)) ta tn))).2.2.2.2.2))], aI E d1 8 ((finF ((addF ((stF u)) ta tn))).1), aI E d2 64 ((finF ((addF ((stF u)) ta tn))).2.1), aI E d3 8 ((finF ((addF ((stF u)) ta tn))).2.2.1), aB E d4 64 ((finF ((addF ((stF u)) ta tn))).2.2.2.1), aB E xo 816 (outH o (finF ((addF ((stF u)) ta tn))).1 8)] [(0, .ref h)] 0 0 33 []
  refine j_aload_n hg 0 dS_digest_33 rfl rfl ?_
  refine j_bipush hg (v := 32) dS_digest_34 (by decide) ?_
  refine j_put hg (C := RX3) (T := TX3) (N := 12) (ty := .int) (ws' := [ob h 3 [.ref xt, .int (nI tn), .ref xo, .int 32, .ref xk, .ref xn, .ref xb, .ref xz, .ref xm, .ref xs, .ref xp, .ref xd], aB E xt 800 ta, ob xd 2 [.ref d1, .ref d2, .ref d3, .ref d4, .int (nI ((finF ((addF ((stF u)) ta tn))).2.2.2.2.1)), .int (nI ((finF ((addF ((stF u)) ta tn))).2.2.2.2.2))], aI E d1 8 ((finF ((addF ((stF u)) ta tn))).1), aI E d2 64 ((finF ((addF ((stF u)) ta tn))).2.1), aI E d3 8 ((finF ((addF ((stF u)) ta tn))).2.2.1), aB E d4 64 ((finF ((addF ((stF u)) ta tn))).2.2.2.1), aB E xo 816 (outH o (finF ((addF ((stF u)) ta tn))).1 8)]) inX3 tyX3 tyX3_ok nmX3 0 rfl rfl 3 (by decide) m86 rfl (by decide +kernel) rfl rfl (Nat.le_of_ble_eq_true rfl) rfl dS_digest_36 ?_
  refine j_aload_n hg 0 dS_digest_39 rfl rfl ?_
  refine j_iconst hg (v := 0) dS_digest_40 (by decide) ?_
  refine j_put hg (C := RX3) (T := TX3) (N := 12) (ty := .int) (ws' := [ob h 3 [.ref xt, .int 0, .ref xo, .int 32, .ref xk, .ref xn, .ref xb, .ref xz, .ref xm, .ref xs, .ref xp, .ref xd], aB E xt 800 ta, ob xd 2 [.ref d1, .ref d2, .ref d3, .ref d4, .int (nI ((finF ((addF ((stF u)) ta tn))).2.2.2.2.1)), .int (nI ((finF ((addF ((stF u)) ta tn))).2.2.2.2.2))], aI E d1 8 ((finF ((addF ((stF u)) ta tn))).1), aI E d2 64 ((finF ((addF ((stF u)) ta tn))).2.1), aI E d3 8 ((finF ((addF ((stF u)) ta tn))).2.2.1), aB E d4 64 ((finF ((addF ((stF u)) ta tn))).2.2.2.1), aB E xo 816 (outH o (finF ((addF ((stF u)) ta tn))).1 8)]) inX3 tyX3 tyX3_ok nmX3 0 rfl rfl 1 (by decide) m84 rfl (by decide +kernel) rfl rfl (Nat.le_of_ble_eq_true rfl) rfl dS_digest_41 ?_
  refine j_aload_n hg 0 dS_digest_44 rfl rfl ?_
  refine j_get hg (C := RX3) (T := TX3) (N := 12) inX3 0 rfl rfl 3 (by decide) m86 rfl dS_digest_45 ?_
  exact j_iret hg hR rfl () trivial rfl [0, 2, 3, 4, 5, 6, 1, 7] rfl (by decide) (by decide) (by decide) dS_digest_48

theorem Byt.outH {row st : Nat → Int32} (h : Byt row) : ∀ i, Byt (outH row st i)
  | 0 => h
  | i + 1 => (Byt.outH h i).wh

def rm_S_mac : Room := { frames := 5, cells := 0, slots := 0, locals := 115 }
set_option maxHeartbeats 1000000 in
set_option maxRecDepth 100000 in
theorem c_S_mac (l : Launch) (E : Ev) (h xt xo xk xn xb xz xm xs xp xd : Nat) (tn on : Nat) (d1 d2 d3 d4 : Nat) (u : HS) (fk ta o : Nat → Int32) (ht : Byt ta) (ho : Byt o) (h1 : tn ≤ 800) : MC E l yS_mac (cT yS_mac cS_mac 1 (some .int)) rm_S_mac [.ref h] [ob h 3 [.ref xt, .int (nI tn), .ref xo, .int (nI on), .ref xk, .ref xn, .ref xb, .ref xz, .ref xm, .ref xs, .ref xp, .ref xd], ob xd 2 [.ref d1, .ref d2, .ref d3, .ref d4, .int (nI u.2.2.2.2.1), .int (nI u.2.2.2.2.2)], aI E d1 8 u.1, aI E d2 64 u.2.1, aI E d3 8 u.2.2.1, aB E d4 64 u.2.2.2.1, aB E xk 32 fk, aB E xt 800 ta, aB E xo 816 o] Unit (fun _ => True) (fun _ => some (.int 32)) (fun _ => [ob h 3 [.ref xt, .int 0, .ref xo, .int 32, .ref xk, .ref xn, .ref xb, .ref xz, .ref xm, .ref xs, .ref xp, .ref xd], ob xd 2 [.ref d1, .ref d2, .ref d3, .ref d4, .int (nI ((finF (addF (addF (stF (finF (addF (addF (stF u) (mskF fk 54) 64) ta tn))) (mskF fk 92) 64) (outH o (finF (addF (addF (stF u) (mskF fk 54) 64) ta tn)).1 8) 32)).2.2.2.2.1)), .int (nI ((finF (addF (addF (stF (finF (addF (addF (stF u) (mskF fk 54) 64) ta tn))) (mskF fk 92) 64) (outH o (finF (addF (addF (stF u) (mskF fk 54) 64) ta tn)).1 8) 32)).2.2.2.2.2))], aI E d1 8 ((finF (addF (addF (stF (finF (addF (addF (stF u) (mskF fk 54) 64) ta tn))) (mskF fk 92) 64) (outH o (finF (addF (addF (stF u) (mskF fk 54) 64) ta tn)).1 8) 32)).1), aI E d2 64 ((finF (addF (addF (stF (finF (addF (addF (stF u) (mskF fk 54) 64) ta tn))) (mskF fk 92) 64) (outH o (finF (addF (addF (stF u) (mskF fk 54) 64) ta tn)).1 8) 32)).2.1), aI E d3 8 ((finF (addF (addF (stF (finF (addF (addF (stF u) (mskF fk 54) 64) ta tn))) (mskF fk 92) 64) (outH o (finF (addF (addF (stF u) (mskF fk 54) 64) ta tn)).1 8) 32)).2.2.1), aB E d4 64 ((finF (addF (addF (stF (finF (addF (addF (stF u) (mskF fk 54) 64) ta tn))) (mskF fk 92) 64) (outH o (finF (addF (addF (stF u) (mskF fk 54) 64) ta tn)).1 8) 32)).2.2.2.1), aB E xk 32 fk, aB E xt 800 ta, aB E xo 816 (outH (outH o (finF (addF (addF (stF u) (mskF fk 54) 64) ta tn)).1 8) (finF (addF (addF (stF (finF (addF (addF (stF u) (mskF fk 54) 64) ta tn))) (mskF fk 92) 64) (outH o (finF (addF (addF (stF u) (mskF fk 54) 64) ta tn)).1 8) 32)).1 8)]) := by
  refine MC.of (cc := cS_mac) (nL := 1) (ret := (some .int)) (by decide) rfl cT_in (Nat.le_of_ble_eq_true rfl) (fun g hg hR => ?_)
  show J E 1 g [ob h 3 [.ref xt, .int (nI tn), .ref xo, .int (nI on), .ref xk, .ref xn, .ref xb, .ref xz, .ref xm, .ref xs, .ref xp, .ref xd], ob xd 2 [.ref d1, .ref d2, .ref d3, .ref d4, .int (nI u.2.2.2.2.1), .int (nI u.2.2.2.2.2)], aI E d1 8 u.1, aI E d2 64 u.2.1, aI E d3 8 u.2.2.1, aB E d4 64 u.2.2.2.1, aB E xk 32 fk, aB E xt 800 ta, aB E xo 816 o] [(0, .ref h)] 0 0 0 []
  refine j_aload_n hg 0 dS_mac_0 rfl rfl ?_
  refine j_get hg (C := RX3) (T := TX3) (N := 12) inX3 0 rfl rfl 11 (by decide) m94 rfl dS_mac_1 ?_
  refine j_callV hg (n := 0) (y := yH_start) (rm := rm_H_start) (Ws := (cT yH_start cH_start 1 none)) (As := []) (rest := []) (wr := [ob h 3 [.ref xt, .int (nI tn), .ref xo, .int (nI on), .ref xk, .ref xn, .ref xb, .ref xz, .ref xm, .ref xs, .ref xp, .ref xd], aB E xk 32 fk, aB E xt 800 ta, aB E xo 816 o]) 0 rfl rfl (c_H_start l E xd d1 d2 d3 d4 u) (gdV m270 m271 m272 m4 m273) rfl (by decide +kernel) ⟨by decide, by decide⟩ rfl rfl (Nat.le_of_ble_eq_true rfl) ⟨by decide, by decide⟩ [1, 2, 3, 4, 5] [0, 6, 7, 8] rfl rfl (by decide) (by decide) (by decide) dS_mac_4 (fun _ _ => ?_)
  show J E 1 g [ob h 3 [.ref xt, .int (nI tn), .ref xo, .int (nI on), .ref xk, .ref xn, .ref xb, .ref xz, .ref xm, .ref xs, .ref xp, .ref xd], aB E xk 32 fk, aB E xt 800 ta, aB E xo 816 o, ob xd 2 [.ref d1, .ref d2, .ref d3, .ref d4, .int (nI ((stF u).2.2.2.2.1)), .int (nI ((stF u).2.2.2.2.2))], aI E d1 8 ((stF u).1), aI E d2 64 ((stF u).2.1), aI E d3 8 ((stF u).2.2.1), aB E d4 64 ((stF u).2.2.2.1)] [(0, .ref h)] 0 0 7 []
  refine j_aload_n hg 0 dS_mac_7 rfl rfl ?_
  refine j_get hg (C := RX3) (T := TX3) (N := 12) inX3 0 rfl rfl 11 (by decide) m94 rfl dS_mac_8 ?_
  refine j_aload_n hg 0 dS_mac_11 rfl rfl ?_
  refine j_get hg (C := RX3) (T := TX3) (N := 12) inX3 0 rfl rfl 4 (by decide) m87 rfl dS_mac_12 ?_
  refine j_bipush hg (v := 54) dS_mac_15 (by decide) ?_
  refine j_callV hg (n := 2) (y := yH_addMasked) (rm := rm_H_addMasked) (Ws := (cT yH_addMasked cH_addMasked 4 none)) (As := [.ref xk, .int 54]) (rest := []) (wr := [ob h 3 [.ref xt, .int (nI tn), .ref xo, .int (nI on), .ref xk, .ref xn, .ref xb, .ref xz, .ref xm, .ref xs, .ref xp, .ref xd], aB E xt 800 ta, aB E xo 816 o]) 0 rfl rfl (c_H_addMasked l E xd d1 d2 d3 d4 ((stF u)) xk fk 54 (stF_lt _)) (gdV m314 m315 m316 m4 m317) rfl (by decide +kernel) ⟨by decide, by decide⟩ rfl rfl (Nat.le_of_ble_eq_true rfl) ⟨by decide, by decide⟩ [4, 5, 6, 7, 8, 1] [0, 2, 3] rfl rfl (by decide) (by decide) (by decide) dS_mac_17 (fun _ _ => ?_)
  show J E 1 g [ob h 3 [.ref xt, .int (nI tn), .ref xo, .int (nI on), .ref xk, .ref xn, .ref xb, .ref xz, .ref xm, .ref xs, .ref xp, .ref xd], aB E xt 800 ta, aB E xo 816 o, ob xd 2 [.ref d1, .ref d2, .ref d3, .ref d4, .int (nI ((addF ((stF u)) (mskF fk 54) 64).2.2.2.2.1)), .int (nI ((addF ((stF u)) (mskF fk 54) 64).2.2.2.2.2))], aI E d1 8 ((addF ((stF u)) (mskF fk 54) 64).1), aI E d2 64 ((addF ((stF u)) (mskF fk 54) 64).2.1), aI E d3 8 ((addF ((stF u)) (mskF fk 54) 64).2.2.1), aB E d4 64 ((addF ((stF u)) (mskF fk 54) 64).2.2.2.1), aB E xk 32 fk] [(0, .ref h)] 0 0 20 []
  refine j_aload_n hg 0 dS_mac_20 rfl rfl ?_
  refine j_get hg (C := RX3) (T := TX3) (N := 12) inX3 0 rfl rfl 11 (by decide) m94 rfl dS_mac_21 ?_
  refine j_aload_n hg 0 dS_mac_24 rfl rfl ?_
  refine j_get hg (C := RX3) (T := TX3) (N := 12) inX3 0 rfl rfl 0 (by decide) m83 rfl dS_mac_25 ?_
  refine j_aload_n hg 0 dS_mac_28 rfl rfl ?_
  refine j_get hg (C := RX3) (T := TX3) (N := 12) inX3 0 rfl rfl 1 (by decide) m84 rfl dS_mac_29 ?_
  refine j_callV hg (n := 2) (y := yH_add) (rm := rm_H_add) (Ws := (cT yH_add cH_add 4 none)) (As := [.ref xt, .int (nI tn)]) (rest := []) (wr := [ob h 3 [.ref xt, .int (nI tn), .ref xo, .int (nI on), .ref xk, .ref xn, .ref xb, .ref xz, .ref xm, .ref xs, .ref xp, .ref xd], aB E xo 816 o, aB E xk 32 fk]) 0 rfl rfl (c_H_add l E xd d1 d2 d3 d4 ((addF ((stF u)) (mskF fk 54) 64)) xt 800 tn ta (addF_lt (stF_lt _) _) ht (by omega) (by omega)) (gdV m277 m278 m279 m4 m280) rfl (by decide +kernel) ⟨by decide, by decide⟩ rfl rfl (Nat.le_of_ble_eq_true rfl) ⟨by decide, by decide⟩ [3, 4, 5, 6, 7, 1] [0, 2, 8] rfl rfl (by decide) (by decide) (by decide) dS_mac_32 (fun _ _ => ?_)
  show J E 1 g [ob h 3 [.ref xt, .int (nI tn), .ref xo, .int (nI on), .ref xk, .ref xn, .ref xb, .ref xz, .ref xm, .ref xs, .ref xp, .ref xd], aB E xo 816 o, aB E xk 32 fk, ob xd 2 [.ref d1, .ref d2, .ref d3, .ref d4, .int (nI ((addF ((addF ((stF u)) (mskF fk 54) 64)) ta tn).2.2.2.2.1)), .int (nI ((addF ((addF ((stF u)) (mskF fk 54) 64)) ta tn).2.2.2.2.2))], aI E d1 8 ((addF ((addF ((stF u)) (mskF fk 54) 64)) ta tn).1), aI E d2 64 ((addF ((addF ((stF u)) (mskF fk 54) 64)) ta tn).2.1), aI E d3 8 ((addF ((addF ((stF u)) (mskF fk 54) 64)) ta tn).2.2.1), aB E d4 64 ((addF ((addF ((stF u)) (mskF fk 54) 64)) ta tn).2.2.2.1), aB E xt 800 ta] [(0, .ref h)] 0 0 35 []
  refine j_aload_n hg 0 dS_mac_35 rfl rfl ?_
  refine j_get hg (C := RX3) (T := TX3) (N := 12) inX3 0 rfl rfl 11 (by decide) m94 rfl dS_mac_36 ?_
  refine j_aload_n hg 0 dS_mac_39 rfl rfl ?_
  refine j_get hg (C := RX3) (T := TX3) (N := 12) inX3 0 rfl rfl 2 (by decide) m85 rfl dS_mac_40 ?_
  refine j_callV hg (n := 1) (y := yH_finish) (rm := rm_H_finish) (Ws := (cT yH_finish cH_finish 5 none)) (As := [.ref xo]) (rest := []) (wr := [ob h 3 [.ref xt, .int (nI tn), .ref xo, .int (nI on), .ref xk, .ref xn, .ref xb, .ref xz, .ref xm, .ref xs, .ref xp, .ref xd], aB E xk 32 fk, aB E xt 800 ta]) 0 rfl rfl (c_H_finish l E xd d1 d2 d3 d4 ((addF ((addF ((stF u)) (mskF fk 54) 64)) ta tn)) xo 816 o (addF_lt (addF_lt (stF_lt _) _) _) (by omega) (by omega)) (gdV m305 m306 m307 m4 m308) rfl (by decide +kernel) ⟨by decide, by decide⟩ rfl rfl (Nat.le_of_ble_eq_true rfl) ⟨by decide, by decide⟩ [3, 4, 5, 6, 7, 1] [0, 2, 8] rfl rfl (by decide) (by decide) (by decide) dS_mac_43 (fun _ _ => ?_)
  show J E 1 g [ob h 3 [.ref xt, .int (nI tn), .ref xo, .int (nI on), .ref xk, .ref xn, .ref xb, .ref xz, .ref xm, .ref xs, .ref xp, .ref xd], aB E xk 32 fk, aB E xt 800 ta, ob xd 2 [.ref d1, .ref d2, .ref d3, .ref d4, .int (nI ((finF ((addF ((addF ((stF u)) (mskF fk 54) 64)) ta tn))).2.2.2.2.1)), .int (nI ((finF ((addF ((addF ((stF u)) (mskF fk 54) 64)) ta tn))).2.2.2.2.2))], aI E d1 8 ((finF ((addF ((addF ((stF u)) (mskF fk 54) 64)) ta tn))).1), aI E d2 64 ((finF ((addF ((addF ((stF u)) (mskF fk 54) 64)) ta tn))).2.1), aI E d3 8 ((finF ((addF ((addF ((stF u)) (mskF fk 54) 64)) ta tn))).2.2.1), aB E d4 64 ((finF ((addF ((addF ((stF u)) (mskF fk 54) 64)) ta tn))).2.2.2.1), aB E xo 816 (outH o (finF ((addF ((addF ((stF u)) (mskF fk 54) 64)) ta tn))).1 8)] [(0, .ref h)] 0 0 46 []
  refine j_aload_n hg 0 dS_mac_46 rfl rfl ?_
  refine j_get hg (C := RX3) (T := TX3) (N := 12) inX3 0 rfl rfl 11 (by decide) m94 rfl dS_mac_47 ?_
  refine j_callV hg (n := 0) (y := yH_start) (rm := rm_H_start) (Ws := (cT yH_start cH_start 1 none)) (As := []) (rest := []) (wr := [ob h 3 [.ref xt, .int (nI tn), .ref xo, .int (nI on), .ref xk, .ref xn, .ref xb, .ref xz, .ref xm, .ref xs, .ref xp, .ref xd], aB E xk 32 fk, aB E xt 800 ta, aB E xo 816 (outH o (finF ((addF ((addF ((stF u)) (mskF fk 54) 64)) ta tn))).1 8)]) 0 rfl rfl (c_H_start l E xd d1 d2 d3 d4 ((finF ((addF ((addF ((stF u)) (mskF fk 54) 64)) ta tn))))) (gdV m270 m271 m272 m4 m273) rfl (by decide +kernel) ⟨by decide, by decide⟩ rfl rfl (Nat.le_of_ble_eq_true rfl) ⟨by decide, by decide⟩ [3, 4, 5, 6, 7] [0, 1, 2, 8] rfl rfl (by decide) (by decide) (by decide) dS_mac_50 (fun _ _ => ?_)
  show J E 1 g [ob h 3 [.ref xt, .int (nI tn), .ref xo, .int (nI on), .ref xk, .ref xn, .ref xb, .ref xz, .ref xm, .ref xs, .ref xp, .ref xd], aB E xk 32 fk, aB E xt 800 ta, aB E xo 816 (outH o (finF ((addF ((addF ((stF u)) (mskF fk 54) 64)) ta tn))).1 8), ob xd 2 [.ref d1, .ref d2, .ref d3, .ref d4, .int (nI ((stF ((finF ((addF ((addF ((stF u)) (mskF fk 54) 64)) ta tn))))).2.2.2.2.1)), .int (nI ((stF ((finF ((addF ((addF ((stF u)) (mskF fk 54) 64)) ta tn))))).2.2.2.2.2))], aI E d1 8 ((stF ((finF ((addF ((addF ((stF u)) (mskF fk 54) 64)) ta tn))))).1), aI E d2 64 ((stF ((finF ((addF ((addF ((stF u)) (mskF fk 54) 64)) ta tn))))).2.1), aI E d3 8 ((stF ((finF ((addF ((addF ((stF u)) (mskF fk 54) 64)) ta tn))))).2.2.1), aB E d4 64 ((stF ((finF ((addF ((addF ((stF u)) (mskF fk 54) 64)) ta tn))))).2.2.2.1)] [(0, .ref h)] 0 0 53 []
  refine j_aload_n hg 0 dS_mac_53 rfl rfl ?_
  refine j_get hg (C := RX3) (T := TX3) (N := 12) inX3 0 rfl rfl 11 (by decide) m94 rfl dS_mac_54 ?_
  refine j_aload_n hg 0 dS_mac_57 rfl rfl ?_
  refine j_get hg (C := RX3) (T := TX3) (N := 12) inX3 0 rfl rfl 4 (by decide) m87 rfl dS_mac_58 ?_
  refine j_bipush hg (v := 92) dS_mac_61 (by decide) ?_
  refine j_callV hg (n := 2) (y := yH_addMasked) (rm := rm_H_addMasked) (Ws := (cT yH_addMasked cH_addMasked 4 none)) (As := [.ref xk, .int 92]) (rest := []) (wr := [ob h 3 [.ref xt, .int (nI tn), .ref xo, .int (nI on), .ref xk, .ref xn, .ref xb, .ref xz, .ref xm, .ref xs, .ref xp, .ref xd], aB E xt 800 ta, aB E xo 816 (outH o (finF ((addF ((addF ((stF u)) (mskF fk 54) 64)) ta tn))).1 8)]) 0 rfl rfl (c_H_addMasked l E xd d1 d2 d3 d4 ((stF ((finF ((addF ((addF ((stF u)) (mskF fk 54) 64)) ta tn)))))) xk fk 92 (stF_lt _)) (gdV m314 m315 m316 m4 m317) rfl (by decide +kernel) ⟨by decide, by decide⟩ rfl rfl (Nat.le_of_ble_eq_true rfl) ⟨by decide, by decide⟩ [4, 5, 6, 7, 8, 1] [0, 2, 3] rfl rfl (by decide) (by decide) (by decide) dS_mac_63 (fun _ _ => ?_)
  show J E 1 g [ob h 3 [.ref xt, .int (nI tn), .ref xo, .int (nI on), .ref xk, .ref xn, .ref xb, .ref xz, .ref xm, .ref xs, .ref xp, .ref xd], aB E xt 800 ta, aB E xo 816 (outH o (finF ((addF ((addF ((stF u)) (mskF fk 54) 64)) ta tn))).1 8), ob xd 2 [.ref d1, .ref d2, .ref d3, .ref d4, .int (nI ((addF ((stF ((finF ((addF ((addF ((stF u)) (mskF fk 54) 64)) ta tn)))))) (mskF fk 92) 64).2.2.2.2.1)), .int (nI ((addF ((stF ((finF ((addF ((addF ((stF u)) (mskF fk 54) 64)) ta tn)))))) (mskF fk 92) 64).2.2.2.2.2))], aI E d1 8 ((addF ((stF ((finF ((addF ((addF ((stF u)) (mskF fk 54) 64)) ta tn)))))) (mskF fk 92) 64).1), aI E d2 64 ((addF ((stF ((finF ((addF ((addF ((stF u)) (mskF fk 54) 64)) ta tn)))))) (mskF fk 92) 64).2.1), aI E d3 8 ((addF ((stF ((finF ((addF ((addF ((stF u)) (mskF fk 54) 64)) ta tn)))))) (mskF fk 92) 64).2.2.1), aB E d4 64 ((addF ((stF ((finF ((addF ((addF ((stF u)) (mskF fk 54) 64)) ta tn)))))) (mskF fk 92) 64).2.2.2.1), aB E xk 32 fk] [(0, .ref h)] 0 0 66 []
  refine j_aload_n hg 0 dS_mac_66 rfl rfl ?_
  refine j_get hg (C := RX3) (T := TX3) (N := 12) inX3 0 rfl rfl 11 (by decide) m94 rfl dS_mac_67 ?_
  refine j_aload_n hg 0 dS_mac_70 rfl rfl ?_
  refine j_get hg (C := RX3) (T := TX3) (N := 12) inX3 0 rfl rfl 2 (by decide) m85 rfl dS_mac_71 ?_
  refine j_bipush hg (v := 32) dS_mac_74 (by decide) ?_
  refine j_callV hg (n := 2) (y := yH_add) (rm := rm_H_add) (Ws := (cT yH_add cH_add 4 none)) (As := [.ref xo, .int 32]) (rest := []) (wr := [ob h 3 [.ref xt, .int (nI tn), .ref xo, .int (nI on), .ref xk, .ref xn, .ref xb, .ref xz, .ref xm, .ref xs, .ref xp, .ref xd], aB E xt 800 ta, aB E xk 32 fk]) 0 rfl rfl (c_H_add l E xd d1 d2 d3 d4 ((addF ((stF ((finF ((addF ((addF ((stF u)) (mskF fk 54) 64)) ta tn)))))) (mskF fk 92) 64)) xo 816 32 (outH o (finF ((addF ((addF ((stF u)) (mskF fk 54) 64)) ta tn))).1 8) (addF_lt (stF_lt _) _) (ho.outH 8) (by omega) (by omega)) (gdV m277 m278 m279 m4 m280) rfl (by decide +kernel) ⟨by decide, by decide⟩ rfl rfl (Nat.le_of_ble_eq_true rfl) ⟨by decide, by decide⟩ [3, 4, 5, 6, 7, 2] [0, 1, 8] rfl rfl (by decide) (by decide) (by decide) dS_mac_76 (fun _ _ => ?_)
  show J E 1 g [ob h 3 [.ref xt, .int (nI tn), .ref xo, .int (nI on), .ref xk, .ref xn, .ref xb, .ref xz, .ref xm, .ref xs, .ref xp, .ref xd], aB E xt 800 ta, aB E xk 32 fk, ob xd 2 [.ref d1, .ref d2, .ref d3, .ref d4, .int (nI ((addF ((addF ((stF ((finF ((addF ((addF ((stF u)) (mskF fk 54) 64)) ta tn)))))) (mskF fk 92) 64)) (outH o (finF ((addF ((addF ((stF u)) (mskF fk 54) 64)) ta tn))).1 8) 32).2.2.2.2.1)), .int (nI ((addF ((addF ((stF ((finF ((addF ((addF ((stF u)) (mskF fk 54) 64)) ta tn)))))) (mskF fk 92) 64)) (outH o (finF ((addF ((addF ((stF u)) (mskF fk 54) 64)) ta tn))).1 8) 32).2.2.2.2.2))], aI E d1 8 ((addF ((addF ((stF ((finF ((addF ((addF ((stF u)) (mskF fk 54) 64)) ta tn)))))) (mskF fk 92) 64)) (outH o (finF ((addF ((addF ((stF u)) (mskF fk 54) 64)) ta tn))).1 8) 32).1), aI E d2 64 ((addF ((addF ((stF ((finF ((addF ((addF ((stF u)) (mskF fk 54) 64)) ta tn)))))) (mskF fk 92) 64)) (outH o (finF ((addF ((addF ((stF u)) (mskF fk 54) 64)) ta tn))).1 8) 32).2.1), aI E d3 8 ((addF ((addF ((stF ((finF ((addF ((addF ((stF u)) (mskF fk 54) 64)) ta tn)))))) (mskF fk 92) 64)) (outH o (finF ((addF ((addF ((stF u)) (mskF fk 54) 64)) ta tn))).1 8) 32).2.2.1), aB E d4 64 ((addF ((addF ((stF ((finF ((addF ((addF ((stF u)) (mskF fk 54) 64)) ta tn)))))) (mskF fk 92) 64)) (outH o (finF ((addF ((addF ((stF u)) (mskF fk 54) 64)) ta tn))).1 8) 32).2.2.2.1), aB E xo 816 (outH o (finF ((addF ((addF ((stF u)) (mskF fk 54) 64)) ta tn))).1 8)] [(0, .ref h)] 0 0 79 []
  refine j_aload_n hg 0 dS_mac_79 rfl rfl ?_
  refine j_get hg (C := RX3) (T := TX3) (N := 12) inX3 0 rfl rfl 11 (by decide) m94 rfl dS_mac_80 ?_
  refine j_aload_n hg 0 dS_mac_83 rfl rfl ?_
  refine j_get hg (C := RX3) (T := TX3) (N := 12) inX3 0 rfl rfl 2 (by decide) m85 rfl dS_mac_84 ?_
  refine j_callV hg (n := 1) (y := yH_finish) (rm := rm_H_finish) (Ws := (cT yH_finish cH_finish 5 none)) (As := [.ref xo]) (rest := []) (wr := [ob h 3 [.ref xt, .int (nI tn), .ref xo, .int (nI on), .ref xk, .ref xn, .ref xb, .ref xz, .ref xm, .ref xs, .ref xp, .ref xd], aB E xt 800 ta, aB E xk 32 fk]) 0 rfl rfl (c_H_finish l E xd d1 d2 d3 d4 ((addF ((addF ((stF ((finF ((addF ((addF ((stF u)) (mskF fk 54) 64)) ta tn)))))) (mskF fk 92) 64)) (outH o (finF ((addF ((addF ((stF u)) (mskF fk 54) 64)) ta tn))).1 8) 32)) xo 816 (outH o (finF ((addF ((addF ((stF u)) (mskF fk 54) 64)) ta tn))).1 8) (addF_lt (addF_lt (stF_lt _) _) _) (by omega) (by omega)) (gdV m305 m306 m307 m4 m308) rfl (by decide +kernel) ⟨by decide, by decide⟩ rfl rfl (Nat.le_of_ble_eq_true rfl) ⟨by decide, by decide⟩ [3, 4, 5, 6, 7, 8] [0, 1, 2] rfl rfl (by decide) (by decide) (by decide) dS_mac_87 (fun _ _ => ?_)
  show J E 1 g [ob h 3 [.ref xt, .int (nI tn), .ref xo, .int (nI on), .ref xk, .ref xn, .ref xb, .ref xz, .ref xm, .ref xs, .ref xp, .ref xd], aB E xt 800 ta, aB E xk 32 fk, ob xd 2 [.ref d1, .ref d2, .ref d3, .ref d4, .int (nI ((finF ((addF ((addF ((stF ((finF ((addF ((addF ((stF u)) (mskF fk 54) 64)) ta tn)))))) (mskF fk 92) 64)) (outH o (finF ((addF ((addF ((stF u)) (mskF fk 54) 64)) ta tn))).1 8) 32))).2.2.2.2.1)), .int (nI ((finF ((addF ((addF ((stF ((finF ((addF ((addF ((stF u)) (mskF fk 54) 64)) ta tn)))))) (mskF fk 92) 64)) (outH o (finF ((addF ((addF ((stF u)) (mskF fk 54) 64)) ta tn))).1 8) 32))).2.2.2.2.2))], aI E d1 8 ((finF ((addF ((addF ((stF ((finF ((addF ((addF ((stF u)) (mskF fk 54) 64)) ta tn)))))) (mskF fk 92) 64)) (outH o (finF ((addF ((addF ((stF u)) (mskF fk 54) 64)) ta tn))).1 8) 32))).1), aI E d2 64 ((finF ((addF ((addF ((stF ((finF ((addF ((addF ((stF u)) (mskF fk 54) 64)) ta tn)))))) (mskF fk 92) 64)) (outH o (finF ((addF ((addF ((stF u)) (mskF fk 54) 64)) ta tn))).1 8) 32))).2.1), aI E d3 8 ((finF ((addF ((addF ((stF ((finF ((addF ((addF ((stF u)) (mskF fk 54) 64)) ta tn)))))) (mskF fk 92) 64)) (outH o (finF ((addF ((addF ((stF u)) (mskF fk 54) 64)) ta tn))).1 8) 32))).2.2.1), aB E d4 64 ((finF ((addF ((addF ((stF ((finF ((addF ((addF ((stF u)) (mskF fk 54) 64)) ta tn)))))) (mskF fk 92) 64)) (outH o (finF ((addF ((addF ((stF u)) (mskF fk 54) 64)) ta tn))).1 8) 32))).2.2.2.1), aB E xo 816 (outH (outH o (finF ((addF ((addF ((stF u)) (mskF fk 54) 64)) ta tn))).1 8) (finF ((addF ((addF ((stF ((finF ((addF ((addF ((stF u)) (mskF fk 54) 64)) ta tn)))))) (mskF fk 92) 64)) (outH o (finF ((addF ((addF ((stF u)) (mskF fk 54) 64)) ta tn))).1 8) 32))).1 8)] [(0, .ref h)] 0 0 90 []
  refine j_aload_n hg 0 dS_mac_90 rfl rfl ?_
  refine j_bipush hg (v := 32) dS_mac_91 (by decide) ?_
  refine j_put hg (C := RX3) (T := TX3) (N := 12) (ty := .int) (ws' := [ob h 3 [.ref xt, .int (nI tn), .ref xo, .int 32, .ref xk, .ref xn, .ref xb, .ref xz, .ref xm, .ref xs, .ref xp, .ref xd], aB E xt 800 ta, aB E xk 32 fk, ob xd 2 [.ref d1, .ref d2, .ref d3, .ref d4, .int (nI ((finF ((addF ((addF ((stF ((finF ((addF ((addF ((stF u)) (mskF fk 54) 64)) ta tn)))))) (mskF fk 92) 64)) (outH o (finF ((addF ((addF ((stF u)) (mskF fk 54) 64)) ta tn))).1 8) 32))).2.2.2.2.1)), .int (nI ((finF ((addF ((addF ((stF ((finF ((addF ((addF ((stF u)) (mskF fk 54) 64)) ta tn)))))) (mskF fk 92) 64)) (outH o (finF ((addF ((addF ((stF u)) (mskF fk 54) 64)) ta tn))).1 8) 32))).2.2.2.2.2))], aI E d1 8 ((finF ((addF ((addF ((stF ((finF ((addF ((addF ((stF u)) (mskF fk 54) 64)) ta tn)))))) (mskF fk 92) 64)) (outH o (finF ((addF ((addF ((stF u)) (mskF fk 54) 64)) ta tn))).1 8) 32))).1), aI E d2 64 ((finF ((addF ((addF ((stF ((finF ((addF ((addF ((stF u)) (mskF fk 54) 64)) ta tn)))))) (mskF fk 92) 64)) (outH o (finF ((addF ((addF ((stF u)) (mskF fk 54) 64)) ta tn))).1 8) 32))).2.1), aI E d3 8 ((finF ((addF ((addF ((stF ((finF ((addF ((addF ((stF u)) (mskF fk 54) 64)) ta tn)))))) (mskF fk 92) 64)) (outH o (finF ((addF ((addF ((stF u)) (mskF fk 54) 64)) ta tn))).1 8) 32))).2.2.1), aB E d4 64 ((finF ((addF ((addF ((stF ((finF ((addF ((addF ((stF u)) (mskF fk 54) 64)) ta tn)))))) (mskF fk 92) 64)) (outH o (finF ((addF ((addF ((stF u)) (mskF fk 54) 64)) ta tn))).1 8) 32))).2.2.2.1), aB E xo 816 (outH (outH o (finF ((addF ((addF ((stF u)) (mskF fk 54) 64)) ta tn))).1 8) (finF ((addF ((addF ((stF ((finF ((addF ((addF ((stF u)) (mskF fk 54) 64)) ta tn)))))) (mskF fk 92) 64)) (outH o (finF ((addF ((addF ((stF u)) (mskF fk 54) 64)) ta tn))).1 8) 32))).1 8)]) inX3 tyX3 tyX3_ok nmX3 0 rfl rfl 3 (by decide) m86 rfl (by decide +kernel) rfl rfl (Nat.le_of_ble_eq_true rfl) rfl dS_mac_93 ?_
  refine j_aload_n hg 0 dS_mac_96 rfl rfl ?_
  refine j_iconst hg (v := 0) dS_mac_97 (by decide) ?_
  refine j_put hg (C := RX3) (T := TX3) (N := 12) (ty := .int) (ws' := [ob h 3 [.ref xt, .int 0, .ref xo, .int 32, .ref xk, .ref xn, .ref xb, .ref xz, .ref xm, .ref xs, .ref xp, .ref xd], aB E xt 800 ta, aB E xk 32 fk, ob xd 2 [.ref d1, .ref d2, .ref d3, .ref d4, .int (nI ((finF ((addF ((addF ((stF ((finF ((addF ((addF ((stF u)) (mskF fk 54) 64)) ta tn)))))) (mskF fk 92) 64)) (outH o (finF ((addF ((addF ((stF u)) (mskF fk 54) 64)) ta tn))).1 8) 32))).2.2.2.2.1)), .int (nI ((finF ((addF ((addF ((stF ((finF ((addF ((addF ((stF u)) (mskF fk 54) 64)) ta tn)))))) (mskF fk 92) 64)) (outH o (finF ((addF ((addF ((stF u)) (mskF fk 54) 64)) ta tn))).1 8) 32))).2.2.2.2.2))], aI E d1 8 ((finF ((addF ((addF ((stF ((finF ((addF ((addF ((stF u)) (mskF fk 54) 64)) ta tn)))))) (mskF fk 92) 64)) (outH o (finF ((addF ((addF ((stF u)) (mskF fk 54) 64)) ta tn))).1 8) 32))).1), aI E d2 64 ((finF ((addF ((addF ((stF ((finF ((addF ((addF ((stF u)) (mskF fk 54) 64)) ta tn)))))) (mskF fk 92) 64)) (outH o (finF ((addF ((addF ((stF u)) (mskF fk 54) 64)) ta tn))).1 8) 32))).2.1), aI E d3 8 ((finF ((addF ((addF ((stF ((finF ((addF ((addF ((stF u)) (mskF fk 54) 64)) ta tn)))))) (mskF fk 92) 64)) (outH o (finF ((addF ((addF ((stF u)) (mskF fk 54) 64)) ta tn))).1 8) 32))).2.2.1), aB E d4 64 ((finF ((addF ((addF ((stF ((finF ((addF ((addF ((stF u)) (mskF fk 54) 64)) ta tn)))))) (mskF fk 92) 64)) (outH o (finF ((addF ((addF ((stF u)) (mskF fk 54) 64)) ta tn))).1 8) 32))).2.2.2.1), aB E xo 816 (outH (outH o (finF ((addF ((addF ((stF u)) (mskF fk 54) 64)) ta tn))).1 8) (finF ((addF ((addF ((stF ((finF ((addF ((addF ((stF u)) (mskF fk 54) 64)) ta tn)))))) (mskF fk 92) 64)) (outH o (finF ((addF ((addF ((stF u)) (mskF fk 54) 64)) ta tn))).1 8) 32))).1 8)]) inX3 tyX3 tyX3_ok nmX3 0 rfl rfl 1 (by decide) m84 rfl (by decide +kernel) rfl rfl (Nat.le_of_ble_eq_true rfl) rfl dS_mac_98 ?_
  refine j_aload_n hg 0 dS_mac_101 rfl rfl ?_
  refine j_get hg (C := RX3) (T := TX3) (N := 12) inX3 0 rfl rfl 3 (by decide) m86 rfl dS_mac_102 ?_
  exact j_iret hg hR rfl () trivial rfl [0, 3, 4, 5, 6, 7, 2, 1, 8] rfl (by decide) (by decide) (by decide) dS_mac_105
end
section
/-! StreamSeal: the stream over the TAPE, the sum of what is sealed, seal, open. -/
theorem Byt.outF {row mx fi : Nat → Int32} (h : Byt row) : ∀ i, Byt (outF row mx fi i)
  | 0 => h
  | i + 1 => (Byt.outF h i).wl
theorem Byt.fillF {row f m fk fn : Nat → Int32} {c : Int32} (h : Byt row) : Byt (fillF row f m fk fn c) := Byt.outF h 16
theorem Byt.foS {w : Nat → Int64} {la row : Nat → Int32} {k : Nat} (h : Byt row) : ∀ i, Byt (foS w la row k i).2
  | 0 => h
  | i + 1 => (Byt.foS h i).wl
/-- out, stream's bytes, first, mixed -/
abbrev CS : Type := (Nat → Int32) × (Nat → Int32) × (Nat → Int32) × (Nat → Int32)
def xorF (o ta sb : Nat → Int32) (d fr : Nat) : Nat → Nat → Int32
  | 0 => o
  | j + 1 => upd (xorF o ta sb d fr j) (d + j) (sB (ta (fr + d + j) ^^^ sb j))
theorem Byt.xorF {o ta sb : Nat → Int32} {d fr : Nat} (h : Byt o) : ∀ i, Byt (xorF o ta sb d fr i)
  | 0 => h
  | i + 1 => (Byt.xorF h i).up (sB_fit _)
def cst0 (x : CS) (fk fn ta : Nat → Int32) (fr sz i : Nat) : CS :=
  (xorF x.1 ta (fillF x.2.1 x.2.2.1 x.2.2.2 fk fn (nI (1 + i))) (64 * i) fr (min 64 (sz - 64 * i)), fillF x.2.1 x.2.2.1 x.2.2.2 fk fn (nI (1 + i)), layF x.2.2.1 fk fn (nI (1 + i)), mixF x.2.2.1 x.2.2.2 fk fn (nI (1 + i)))
noncomputable def cstF : CS → (Nat → Int32) → (Nat → Int32) → (Nat → Int32) → Nat → Nat → Nat → CS := Classical.choose (⟨cst0, rfl⟩ : ∃ F : CS → (Nat → Int32) → (Nat → Int32) → (Nat → Int32) → Nat → Nat → Nat → CS, F = cst0)
theorem cstF_eq : cstF = cst0 := Classical.choose_spec (⟨cst0, rfl⟩ : ∃ F : CS → (Nat → Int32) → (Nat → Int32) → (Nat → Int32) → Nat → Nat → Nat → CS, F = cst0)
noncomputable def covF (x : CS) (fk fn ta : Nat → Int32) (fr sz : Nat) : Nat → CS
  | 0 => x
  | i + 1 => cstF (covF x fk fn ta fr sz i) fk fn ta fr sz i
theorem covF_s (x : CS) (fk fn ta : Nat → Int32) (fr sz i : Nat) : covF x fk fn ta fr sz (i + 1) = cst0 (covF x fk fn ta fr sz i) fk fn ta fr sz i := by
  show cstF _ _ _ _ _ _ _ = _
  rw [cstF_eq]
theorem Byt.covF {x : CS} {fk fn ta : Nat → Int32} {fr sz : Nat} (h1 : Byt x.1) (h2 : Byt x.2.1) : ∀ i, Byt (covF x fk fn ta fr sz i).1 ∧ Byt (covF x fk fn ta fr sz i).2.1
  | 0 => ⟨h1, h2⟩
  | i + 1 => by
    rw [covF_s]
    exact ⟨(Byt.covF h1 h2 i).1.xorF _, (Byt.covF h1 h2 i).2.fillF⟩
/-- first, mixed, stream's bytes, factor, total, product, words, last, block, sizes, sum -/
abbrev SS : Type := (Nat → Int32) × (Nat → Int32) × (Nat → Int32) × (Nat → Int64) × (Nat → Int64) × (Nat → Int64) × (Nat → Int64) × (Nat → Int32) × (Nat → Int32) × (Nat → Int32) × (Nat → Int32)

def ssB (y : SS) (fk fn : Nat → Int32) : Nat → Int32 := fillF y.2.2.1 y.1 y.2.1 fk fn 0
def ssR (y : SS) (fk fn : Nat → Int32) : Nat → Int64 := parts5 (kblk y.2.2.2.2.2.2.2.2.1 (ssB y fk fn)) y.2.2.2.1 5
def ssZ (siz : Nat → Int32) (hd sz : Nat) : Nat → Int32 := wl (wl siz 0 (nI hd)) 8 (nI sz)
noncomputable def ssX (y : SS) (fk fn ta se : Nat → Int32) (hd fr sz : Nat) : TPB := paddF (ssR y fk fn) (ppadF (ssR y fk fn) (ppadF (ssR y fk fn) (ps0 y.2.2.2.2.1 y.2.2.2.2.2.1 y.2.2.2.2.2.2.2.2.1 (ssB y fk fn)) ta 0 hd ((hd + 15) / 16)) se fr sz ((sz + 15) / 16)) (ssZ y.2.2.2.2.2.2.2.2.2.1 hd sz) 0 16 ((16 + 15) / 16)
noncomputable def ssW (y : SS) (fk fn ta se : Nat → Int32) (hd fr sz : Nat) : Nat → Int64 := words4 (finT (ssX y fk fn ta se hd fr sz).1 (ssX y fk fn ta se hd fr sz).2.1) y.2.2.2.2.2.2.1
noncomputable def ss0 (y : SS) (fk fn ta se : Nat → Int32) (hd fr sz : Nat) : SS := (layF y.1 fk fn 0, mixF y.1 y.2.1 fk fn 0, ssB y fk fn, ssR y fk fn, finT (ssX y fk fn ta se hd fr sz).1 (ssX y fk fn ta se hd fr sz).2.1, tpP (car (ssX y fk fn ta se hd fr sz).1) (ssX y fk fn ta se hd fr sz).2.1 5, ssW y fk fn ta se hd fr sz, last4 (ssB y fk fn) y.2.2.2.2.2.2.2.1 4, (ssX y fk fn ta se hd fr sz).2.2, ssZ y.2.2.2.2.2.2.2.2.2.1 hd sz, (foS (ssW y fk fn ta se hd fr sz) (last4 (ssB y fk fn) y.2.2.2.2.2.2.2.1 4) y.2.2.2.2.2.2.2.2.2.2 0 4).2)
noncomputable def ssF : SS → (Nat → Int32) → (Nat → Int32) → (Nat → Int32) → (Nat → Int32) → Nat → Nat → Nat → SS := Classical.choose (⟨ss0, rfl⟩ : ∃ F : SS → (Nat → Int32) → (Nat → Int32) → (Nat → Int32) → (Nat → Int32) → Nat → Nat → Nat → SS, F = ss0)
theorem ssF_eq : ssF = ss0 := Classical.choose_spec (⟨ss0, rfl⟩ : ∃ F : SS → (Nat → Int32) → (Nat → Int32) → (Nat → Int32) → (Nat → Int32) → Nat → Nat → Nat → SS, F = ss0)

def rm_S_streamTapeToOut : Room := { frames := 4, cells := 0, slots := 0, locals := 90 }
set_option maxHeartbeats 1000000 in
set_option maxRecDepth 100000 in
theorem c_S_streamTapeToOut (l : Launch) (E : Ev) (h xt xo xk xn xb xz xm xs xp xd : Nat) (tn on : Nat) (c1 c2 : Nat) (fk fn ta : Nat → Int32) (x : CS) (f sz : Nat) (h1 : f + sz ≤ 800) : MC E l yS_streamTapeToOut (cT yS_streamTapeToOut cS_streamTapeToOut 7 none) rm_S_streamTapeToOut [.ref h, .int (nI f), .int (nI sz)] [ob h 3 [.ref xt, .int (nI tn), .ref xo, .int (nI on), .ref xk, .ref xn, .ref xb, .ref xz, .ref xm, .ref xs, .ref xp, .ref xd], ob xs 0 [.ref c1, .ref c2], aI E c1 16 x.2.2.1, aI E c2 16 x.2.2.2, aB E xk 32 fk, aB E xn 12 fn, aB E xb 64 x.2.1, aB E xt 800 ta, aB E xo 816 x.1] Unit (fun _ => True) (fun _ => none) (fun _ => [ob h 3 [.ref xt, .int (nI tn), .ref xo, .int (nI on), .ref xk, .ref xn, .ref xb, .ref xz, .ref xm, .ref xs, .ref xp, .ref xd], ob xs 0 [.ref c1, .ref c2], aI E c1 16 ((covF x fk fn ta f sz ((sz + 63) / 64)).2.2.1), aI E c2 16 ((covF x fk fn ta f sz ((sz + 63) / 64)).2.2.2), aB E xk 32 fk, aB E xn 12 fn, aB E xb 64 ((covF x fk fn ta f sz ((sz + 63) / 64)).2.1), aB E xt 800 ta, aB E xo 816 ((covF x fk fn ta f sz ((sz + 63) / 64)).1)]) := by
  refine MC.of (cc := cS_streamTapeToOut) (nL := 7) (ret := none) (by decide) rfl cT_in (Nat.le_of_ble_eq_true rfl) (fun g hg hR => ?_)
  show J E 7 g [ob h 3 [.ref xt, .int (nI tn), .ref xo, .int (nI on), .ref xk, .ref xn, .ref xb, .ref xz, .ref xm, .ref xs, .ref xp, .ref xd], ob xs 0 [.ref c1, .ref c2], aI E c1 16 x.2.2.1, aI E c2 16 x.2.2.2, aB E xk 32 fk, aB E xn 12 fn, aB E xb 64 x.2.1, aB E xt 800 ta, aB E xo 816 x.1] [(0, .ref h), (1, .int (nI f)), (2, .int (nI sz))] 0 0 0 []
  refine j_iconst hg (v := 1) dS_streamTapeToOut_0 (by decide) ?_
  refine j_istore_n hg (lv' := [(3, .int 1), (0, .ref h), (1, .int (nI f)), (2, .int (nI sz))]) dS_streamTapeToOut_1 rfl (by decide) rfl ?_
  refine j_iconst hg (v := 0) dS_streamTapeToOut_2 (by decide) ?_
  refine j_istore hg (lv' := [(4, .int 0), (3, .int 1), (0, .ref h), (1, .int (nI f)), (2, .int (nI sz))]) dS_streamTapeToOut_3 (by decide) rfl ?_
  refine j_pick [2, 3, 4, 1, 0] (lv' := [(0, .ref h), (1, .int (nI f)), (2, .int (nI sz)), (3, .int 1), (4, .int 0)]) rfl ?_
  have loop : ∀ (zk i : Nat), i + zk = (sz + 63) / 64 → J E 7 g [ob h 3 [.ref xt, .int (nI tn), .ref xo, .int (nI on), .ref xk, .ref xn, .ref xb, .ref xz, .ref xm, .ref xs, .ref xp, .ref xd], ob xs 0 [.ref c1, .ref c2], aI E c1 16 ((covF x fk fn ta f sz i).2.2.1), aI E c2 16 ((covF x fk fn ta f sz i).2.2.2), aB E xk 32 fk, aB E xn 12 fn, aB E xb 64 ((covF x fk fn ta f sz i).2.1), aB E xt 800 ta, aB E xo 816 ((covF x fk fn ta f sz i).1)] [(0, .ref h), (1, .int (nI f)), (2, .int (nI sz)), (3, .int (nI (1 + i))), (4, .int (nI (64 * i)))] 0 0 5 [] := by
    intro zk
    induction zk with
    | zero =>
      intro i  hi
      obtain rfl : (sz + 63) / 64 = i := by omega
      refine j_iload hg 4 dS_streamTapeToOut_5 rfl ?_
      refine j_iload_n hg 2 dS_streamTapeToOut_7 rfl rfl ?_
      refine j_nge_t hg (tgt := 98) (64 * ((sz + 63) / 64)) sz rfl rfl (by omega) (by omega) (by omega) dS_streamTapeToOut_8 (by decide) ?_
      exact j_vret hg hR () trivial rfl [0, 1, 2, 3, 4, 5, 6, 7, 8] rfl (by decide) (by decide) (by decide) dS_streamTapeToOut_98
    | succ zk ih =>
      intro i  hi
      refine j_iload hg 4 dS_streamTapeToOut_5 rfl ?_
      refine j_iload_n hg 2 dS_streamTapeToOut_7 rfl rfl ?_
      refine j_nge_f hg (tgt := 98) (64 * i) sz rfl rfl (by omega) (by omega) (by omega) dS_streamTapeToOut_8 (by decide) ?_
      refine j_aload_n hg 0 dS_streamTapeToOut_11 rfl rfl ?_
      refine j_get hg (C := RX3) (T := TX3) (N := 12) inX3 0 rfl rfl 9 (by decide) m92 rfl dS_streamTapeToOut_12 ?_
      refine j_aload_n hg 0 dS_streamTapeToOut_15 rfl rfl ?_
      refine j_get hg (C := RX3) (T := TX3) (N := 12) inX3 0 rfl rfl 6 (by decide) m89 rfl dS_streamTapeToOut_16 ?_
      refine j_aload_n hg 0 dS_streamTapeToOut_19 rfl rfl ?_
      refine j_get hg (C := RX3) (T := TX3) (N := 12) inX3 0 rfl rfl 4 (by decide) m87 rfl dS_streamTapeToOut_20 ?_
      refine j_aload_n hg 0 dS_streamTapeToOut_23 rfl rfl ?_
      refine j_get hg (C := RX3) (T := TX3) (N := 12) inX3 0 rfl rfl 5 (by decide) m88 rfl dS_streamTapeToOut_24 ?_
      refine j_iload_n hg 3 dS_streamTapeToOut_27 rfl rfl ?_
      refine j_callV hg (n := 4) (y := yC_fill) (rm := rm_C_fill) (Ws := (cT yC_fill cC_fill 6 none)) (As := [.ref xb, .ref xk, .ref xn, .int (nI (1 + i))]) (rest := []) (wr := [ob h 3 [.ref xt, .int (nI tn), .ref xo, .int (nI on), .ref xk, .ref xn, .ref xb, .ref xz, .ref xm, .ref xs, .ref xp, .ref xd], aB E xt 800 ta, aB E xo 816 ((covF x fk fn ta f sz i).1)]) 0 rfl rfl (c_C_fill l E xs c1 c2 xk xn xb 64 ((covF x fk fn ta f sz i).2.1) ((covF x fk fn ta f sz i).2.2.1) ((covF x fk fn ta f sz i).2.2.2) fk fn (nI (1 + i)) (by omega) (by omega)) (gdV m154 m155 m156 m2 m157) rfl (by decide +kernel) ⟨by decide, by decide⟩ rfl rfl (Nat.le_of_ble_eq_true rfl) ⟨by decide, by decide⟩ [1, 2, 3, 4, 5, 6] [0, 7, 8] rfl rfl (by decide) (by decide) (by decide) dS_streamTapeToOut_28 (fun _ _ => ?_)
      show J E 7 g [ob h 3 [.ref xt, .int (nI tn), .ref xo, .int (nI on), .ref xk, .ref xn, .ref xb, .ref xz, .ref xm, .ref xs, .ref xp, .ref xd], aB E xt 800 ta, aB E xo 816 ((covF x fk fn ta f sz i).1), ob xs 0 [.ref c1, .ref c2], aI E c1 16 (layF ((covF x fk fn ta f sz i).2.2.1) fk fn (nI (1 + i))), aI E c2 16 (mixF ((covF x fk fn ta f sz i).2.2.1) ((covF x fk fn ta f sz i).2.2.2) fk fn (nI (1 + i))), aB E xk 32 fk, aB E xn 12 fn, aB E xb 64 (fillF ((covF x fk fn ta f sz i).2.1) ((covF x fk fn ta f sz i).2.2.1) ((covF x fk fn ta f sz i).2.2.2) fk fn (nI (1 + i)))] [(0, .ref h), (1, .int (nI f)), (2, .int (nI sz)), (3, .int (nI (1 + i))), (4, .int (nI (64 * i)))] 0 0 31 []
      refine j_bipush hg (v := 64) dS_streamTapeToOut_31 (by decide) ?_
      refine j_iload_n hg 2 dS_streamTapeToOut_33 rfl rfl ?_
      refine j_iload hg 4 dS_streamTapeToOut_34 rfl ?_
      refine j_isub hg (v := nI (sz - (64 * i))) dS_streamTapeToOut_36 (pk_sub (a := sz) (b := 64 * i) (by omega)) ?_
      refine j_mmin hg (v := nI (min 64 (sz - (64 * i)))) m248 m213 m7 m214 (Nat.le_of_ble_eq_true rfl) (Nat.le_of_ble_eq_true rfl) (by decide) (by decide) (nmin (by decide) (by omega)) dS_streamTapeToOut_37 ?_
      refine j_istore hg (lv' := [(5, .int (nI (min 64 (sz - (64 * i))))), (0, .ref h), (1, .int (nI f)), (2, .int (nI sz)), (3, .int (nI (1 + i))), (4, .int (nI (64 * i)))]) dS_streamTapeToOut_40 (by decide) rfl ?_
      refine j_iconst hg (v := 0) dS_streamTapeToOut_42 (by decide) ?_
      refine j_istore hg (lv' := [(6, .int 0), (5, .int (nI (min 64 (sz - (64 * i))))), (0, .ref h), (1, .int (nI f)), (2, .int (nI sz)), (3, .int (nI (1 + i))), (4, .int (nI (64 * i)))]) dS_streamTapeToOut_43 (by decide) rfl ?_
      refine j_sub [0, 3, 4, 5, 6, 7, 8, 1, 2] (ws' := [ob h 3 [.ref xt, .int (nI tn), .ref xo, .int (nI on), .ref xk, .ref xn, .ref xb, .ref xz, .ref xm, .ref xs, .ref xp, .ref xd], ob xs 0 [.ref c1, .ref c2], aI E c1 16 (layF ((covF x fk fn ta f sz i).2.2.1) fk fn (nI (1 + i))), aI E c2 16 (mixF ((covF x fk fn ta f sz i).2.2.1) ((covF x fk fn ta f sz i).2.2.2) fk fn (nI (1 + i))), aB E xk 32 fk, aB E xn 12 fn, aB E xb 64 (fillF ((covF x fk fn ta f sz i).2.1) ((covF x fk fn ta f sz i).2.2.1) ((covF x fk fn ta f sz i).2.2.2) fk fn (nI (1 + i))), aB E xt 800 ta, aB E xo 816 ((covF x fk fn ta f sz i).1)]) rfl (by decide) ?_
      refine j_pick [2, 3, 4, 5, 6, 1, 0] (lv' := [(0, .ref h), (1, .int (nI f)), (2, .int (nI sz)), (3, .int (nI (1 + i))), (4, .int (nI (64 * i))), (5, .int (nI (min 64 (sz - (64 * i))))), (6, .int 0)]) rfl ?_
      have loop2 : ∀ (zk j : Nat), j + zk = min 64 (sz - 64 * i) → J E 7 g [ob h 3 [.ref xt, .int (nI tn), .ref xo, .int (nI on), .ref xk, .ref xn, .ref xb, .ref xz, .ref xm, .ref xs, .ref xp, .ref xd], ob xs 0 [.ref c1, .ref c2], aI E c1 16 (layF (covF x fk fn ta f sz i).2.2.1 fk fn (nI (1 + i))), aI E c2 16 (mixF (covF x fk fn ta f sz i).2.2.1 (covF x fk fn ta f sz i).2.2.2 fk fn (nI (1 + i))), aB E xk 32 fk, aB E xn 12 fn, aB E xb 64 (fillF (covF x fk fn ta f sz i).2.1 (covF x fk fn ta f sz i).2.2.1 (covF x fk fn ta f sz i).2.2.2 fk fn (nI (1 + i))), aB E xt 800 ta, aB E xo 816 (xorF (covF x fk fn ta f sz i).1 ta (fillF (covF x fk fn ta f sz i).2.1 (covF x fk fn ta f sz i).2.2.1 (covF x fk fn ta f sz i).2.2.2 fk fn (nI (1 + i))) (64 * i) f j)] [(0, .ref h), (1, .int (nI f)), (2, .int (nI sz)), (3, .int (nI (1 + i))), (4, .int (nI (64 * i))), (5, .int (nI (min 64 (sz - 64 * i)))), (6, .int (nI j))] 0 0 45 [] := by
        intro zk
        induction zk with
        | zero =>
          intro j  hi
          obtain rfl : min 64 (sz - 64 * i) = j := by omega
          refine j_iload hg 6 dS_streamTapeToOut_45 rfl ?_
          refine j_iload hg 5 dS_streamTapeToOut_47 rfl ?_
          refine j_nge_t hg (tgt := 89) (min 64 (sz - 64 * i)) (min 64 (sz - 64 * i)) rfl rfl (by omega) (by omega) (by omega) dS_streamTapeToOut_49 (by decide) ?_
          refine j_iinc hg (kq := 3) (v := nI (1 + (i + 1))) (lv' := [(3, .int (nI (1 + (i + 1)))), (0, .ref h), (1, .int (nI f)), (2, .int (nI sz)), (4, .int (nI (64 * i))), (5, .int (nI (min 64 (sz - 64 * i)))), (6, .int (nI (min 64 (sz - 64 * i))))]) dS_streamTapeToOut_89 rfl (Eq.trans (nI_add (1 + i) 1) (congrArg nI (by omega))) (by decide) rfl ?_
          refine j_iinc hg (kq := 4) (v := nI (64 * (i + 1))) (lv' := [(4, .int (nI (64 * (i + 1)))), (3, .int (nI (1 + (i + 1)))), (0, .ref h), (1, .int (nI f)), (2, .int (nI sz)), (5, .int (nI (min 64 (sz - 64 * i)))), (6, .int (nI (min 64 (sz - 64 * i))))]) dS_streamTapeToOut_92 rfl (Eq.trans (nI_add (64 * i) 64) (congrArg nI (by omega))) (by decide) rfl ?_
          refine j_goto hg (tgt := 5) dS_streamTapeToOut_95 (by decide) ?_
          refine j_pick [2, 3, 4, 1, 0] (lv' := [(0, .ref h), (1, .int (nI f)), (2, .int (nI sz)), (3, .int (nI (1 + (i + 1)))), (4, .int (nI (64 * (i + 1))))]) rfl ?_
          have ih1 := ih (i + 1) (by omega)
          rw [covF_s] at ih1
          exact ih1
        | succ zk ih =>
          intro j  hi
          refine j_iload hg 6 dS_streamTapeToOut_45 rfl ?_
          refine j_iload hg 5 dS_streamTapeToOut_47 rfl ?_
          refine j_nge_f hg (tgt := 89) j (min 64 (sz - 64 * i)) rfl rfl (by omega) (by omega) (by omega) dS_streamTapeToOut_49 (by decide) ?_
          refine j_aload_n hg 0 dS_streamTapeToOut_52 rfl rfl ?_
          refine j_get hg (C := RX3) (T := TX3) (N := 12) inX3 0 rfl rfl 2 (by decide) m85 rfl dS_streamTapeToOut_53 ?_
          refine j_iload hg 4 dS_streamTapeToOut_56 rfl ?_
          refine j_iload hg 6 dS_streamTapeToOut_58 rfl ?_
          refine j_iadd hg (v := nI (64 * i + j)) dS_streamTapeToOut_60 (nI_add (64 * i) j) ?_
          refine j_aload_n hg 0 dS_streamTapeToOut_61 rfl rfl ?_
          refine j_get hg (C := RX3) (T := TX3) (N := 12) inX3 0 rfl rfl 0 (by decide) m83 rfl dS_streamTapeToOut_62 ?_
          refine j_iload_n hg 1 dS_streamTapeToOut_65 rfl rfl ?_
          refine j_iload hg 4 dS_streamTapeToOut_66 rfl ?_
          refine j_iadd hg (v := nI (f + (64 * i))) dS_streamTapeToOut_68 (nI_add f (64 * i)) ?_
          refine j_iload hg 6 dS_streamTapeToOut_69 rfl ?_
          refine j_iadd hg (v := nI (f + (64 * i) + j)) dS_streamTapeToOut_71 (nI_add (f + (64 * i)) j) ?_
          refine j_bald hg (v := ta (f + (64 * i) + j)) 7 (f + (64 * i) + j) rfl rfl (by omega) (by omega) rfl dS_streamTapeToOut_72 ?_
          refine j_aload_n hg 0 dS_streamTapeToOut_73 rfl rfl ?_
          refine j_get hg (C := RX3) (T := TX3) (N := 12) inX3 0 rfl rfl 6 (by decide) m89 rfl dS_streamTapeToOut_74 ?_
          refine j_iload hg 6 dS_streamTapeToOut_77 rfl ?_
          refine j_bald hg (v := (fillF (covF x fk fn ta f sz i).2.1 (covF x fk fn ta f sz i).2.2.1 (covF x fk fn ta f sz i).2.2.2 fk fn (nI (1 + i))) j) 6 j rfl rfl (by omega) (by omega) rfl dS_streamTapeToOut_79 ?_
          refine j_ixor hg (v := (ta (f + (64 * i) + j)) ^^^ ((fillF (covF x fk fn ta f sz i).2.1 (covF x fk fn ta f sz i).2.2.1 (covF x fk fn ta f sz i).2.2.2 fk fn (nI (1 + i))) j)) dS_streamTapeToOut_80 rfl ?_
          refine j_i2b hg (v := sB ((ta (f + (64 * i) + j)) ^^^ ((fillF (covF x fk fn ta f sz i).2.1 (covF x fk fn ta f sz i).2.2.1 (covF x fk fn ta f sz i).2.2.2 fk fn (nI (1 + i))) j))) dS_streamTapeToOut_81 rfl ?_
          refine j_bast hg (ws' := [ob h 3 [.ref xt, .int (nI tn), .ref xo, .int (nI on), .ref xk, .ref xn, .ref xb, .ref xz, .ref xm, .ref xs, .ref xp, .ref xd], ob xs 0 [.ref c1, .ref c2], aI E c1 16 (layF (covF x fk fn ta f sz i).2.2.1 fk fn (nI (1 + i))), aI E c2 16 (mixF (covF x fk fn ta f sz i).2.2.1 (covF x fk fn ta f sz i).2.2.2 fk fn (nI (1 + i))), aB E xk 32 fk, aB E xn 12 fn, aB E xb 64 (fillF (covF x fk fn ta f sz i).2.1 (covF x fk fn ta f sz i).2.2.1 (covF x fk fn ta f sz i).2.2.2 fk fn (nI (1 + i))), aB E xt 800 ta, aB E xo 816 (upd (xorF (covF x fk fn ta f sz i).1 ta (fillF (covF x fk fn ta f sz i).2.1 (covF x fk fn ta f sz i).2.2.1 (covF x fk fn ta f sz i).2.2.2 fk fn (nI (1 + i))) (64 * i) f j) (64 * i + j) (sB ((ta (f + (64 * i) + j)) ^^^ ((fillF (covF x fk fn ta f sz i).2.1 (covF x fk fn ta f sz i).2.2.1 (covF x fk fn ta f sz i).2.2.2 fk fn (nI (1 + i))) j))))]) 8 (64 * i + j) rfl rfl (by omega) (by omega) (sB_nar _) rfl dS_streamTapeToOut_82 ?_
          refine j_iinc hg (kq := 6) (v := nI (j + 1)) (lv' := [(6, .int (nI (j + 1))), (0, .ref h), (1, .int (nI f)), (2, .int (nI sz)), (3, .int (nI (1 + i))), (4, .int (nI (64 * i))), (5, .int (nI (min 64 (sz - 64 * i))))]) dS_streamTapeToOut_83 rfl (nI_add j 1) (by decide) rfl ?_
          refine j_goto hg (tgt := 45) dS_streamTapeToOut_86 (by decide) ?_
          refine j_pick [1, 2, 3, 4, 5, 6, 0] (lv' := [(0, .ref h), (1, .int (nI f)), (2, .int (nI sz)), (3, .int (nI (1 + i))), (4, .int (nI (64 * i))), (5, .int (nI (min 64 (sz - 64 * i)))), (6, .int (nI (j + 1)))]) rfl ?_
          exact ih (j + 1) (by omega)
      exact loop2 (min 64 (sz - 64 * i)) 0 (by omega)
  exact loop ((sz + 63) / 64) 0 (by omega)

def rm_S_sumSealed : Room := { frames := 4, cells := 0, slots := 0, locals := 101 }
set_option maxHeartbeats 1000000 in
set_option maxRecDepth 100000 in
theorem c_S_sumSealed_o (l : Launch) (E : Ev) (h xt xo xk xn xb xz xm xs xp xd : Nat) (tn on : Nat) (c1 c2 p1 p2 p3 p4 p5 p6 : Nat) (fk fn ta o : Nat → Int32) (y : SS) (hd f sz : Nat) (hsb : Byt y.2.2.1) (hta : Byt ta) (ho : Byt o) (hz : Byt y.2.2.2.2.2.2.2.2.2.1) (h1 : hd ≤ 800) (h2 : f + sz ≤ 816) : MC E l yS_sumSealed (cT yS_sumSealed cS_sumSealed 5 none) rm_S_sumSealed [.ref h, .int (nI hd), .ref xo, .int (nI f), .int (nI sz)] [ob h 3 [.ref xt, .int (nI tn), .ref xo, .int (nI on), .ref xk, .ref xn, .ref xb, .ref xz, .ref xm, .ref xs, .ref xp, .ref xd], ob xs 0 [.ref c1, .ref c2], aI E c1 16 y.1, aI E c2 16 y.2.1, aB E xk 32 fk, aB E xn 12 fn, aB E xb 64 y.2.2.1, ob xp 1 [.ref p1, .ref p2, .ref p3, .ref p4, .ref p5, .ref p6], aL E p1 5 y.2.2.2.1, aL E p2 5 y.2.2.2.2.1, aL E p3 5 y.2.2.2.2.2.1, aL E p4 4 y.2.2.2.2.2.2.1, aI E p5 4 y.2.2.2.2.2.2.2.1, aB E p6 17 y.2.2.2.2.2.2.2.2.1, aB E xt 800 ta, aB E xo 816 o, aB E xz 16 y.2.2.2.2.2.2.2.2.2.1, aB E xm 16 y.2.2.2.2.2.2.2.2.2.2] Unit (fun _ => True) (fun _ => none) (fun _ => [ob h 3 [.ref xt, .int (nI tn), .ref xo, .int (nI on), .ref xk, .ref xn, .ref xb, .ref xz, .ref xm, .ref xs, .ref xp, .ref xd], ob xs 0 [.ref c1, .ref c2], aI E c1 16 ((ssF y fk fn ta o hd f sz).1), aI E c2 16 ((ssF y fk fn ta o hd f sz).2.1), aB E xk 32 fk, aB E xn 12 fn, aB E xb 64 ((ssF y fk fn ta o hd f sz).2.2.1), ob xp 1 [.ref p1, .ref p2, .ref p3, .ref p4, .ref p5, .ref p6], aL E p1 5 ((ssF y fk fn ta o hd f sz).2.2.2.1), aL E p2 5 ((ssF y fk fn ta o hd f sz).2.2.2.2.1), aL E p3 5 ((ssF y fk fn ta o hd f sz).2.2.2.2.2.1), aL E p4 4 ((ssF y fk fn ta o hd f sz).2.2.2.2.2.2.1), aI E p5 4 ((ssF y fk fn ta o hd f sz).2.2.2.2.2.2.2.1), aB E p6 17 ((ssF y fk fn ta o hd f sz).2.2.2.2.2.2.2.2.1), aB E xt 800 ta, aB E xo 816 o, aB E xz 16 ((ssF y fk fn ta o hd f sz).2.2.2.2.2.2.2.2.2.1), aB E xm 16 ((ssF y fk fn ta o hd f sz).2.2.2.2.2.2.2.2.2.2)]) := by
  refine MC.of (cc := cS_sumSealed) (nL := 5) (ret := none) (by decide) rfl cT_in (Nat.le_of_ble_eq_true rfl) (fun g hg hR => ?_)
  show J E 5 g [ob h 3 [.ref xt, .int (nI tn), .ref xo, .int (nI on), .ref xk, .ref xn, .ref xb, .ref xz, .ref xm, .ref xs, .ref xp, .ref xd], ob xs 0 [.ref c1, .ref c2], aI E c1 16 y.1, aI E c2 16 y.2.1, aB E xk 32 fk, aB E xn 12 fn, aB E xb 64 y.2.2.1, ob xp 1 [.ref p1, .ref p2, .ref p3, .ref p4, .ref p5, .ref p6], aL E p1 5 y.2.2.2.1, aL E p2 5 y.2.2.2.2.1, aL E p3 5 y.2.2.2.2.2.1, aL E p4 4 y.2.2.2.2.2.2.1, aI E p5 4 y.2.2.2.2.2.2.2.1, aB E p6 17 y.2.2.2.2.2.2.2.2.1, aB E xt 800 ta, aB E xo 816 o, aB E xz 16 y.2.2.2.2.2.2.2.2.2.1, aB E xm 16 y.2.2.2.2.2.2.2.2.2.2] [(0, .ref h), (1, .int (nI hd)), (2, .ref xo), (3, .int (nI f)), (4, .int (nI sz))] 0 0 0 []
  refine j_aload_n hg 0 dS_sumSealed_0 rfl rfl ?_
  refine j_get hg (C := RX3) (T := TX3) (N := 12) inX3 0 rfl rfl 9 (by decide) m92 rfl dS_sumSealed_1 ?_
  refine j_aload_n hg 0 dS_sumSealed_4 rfl rfl ?_
  refine j_get hg (C := RX3) (T := TX3) (N := 12) inX3 0 rfl rfl 6 (by decide) m89 rfl dS_sumSealed_5 ?_
  refine j_aload_n hg 0 dS_sumSealed_8 rfl rfl ?_
  refine j_get hg (C := RX3) (T := TX3) (N := 12) inX3 0 rfl rfl 4 (by decide) m87 rfl dS_sumSealed_9 ?_
  refine j_aload_n hg 0 dS_sumSealed_12 rfl rfl ?_
  refine j_get hg (C := RX3) (T := TX3) (N := 12) inX3 0 rfl rfl 5 (by decide) m88 rfl dS_sumSealed_13 ?_
  refine j_iconst hg (v := 0) dS_sumSealed_16 (by decide) ?_
  refine j_callV hg (n := 4) (y := yC_fill) (rm := rm_C_fill) (Ws := (cT yC_fill cC_fill 6 none)) (As := [.ref xb, .ref xk, .ref xn, .int 0]) (rest := []) (wr := [ob h 3 [.ref xt, .int (nI tn), .ref xo, .int (nI on), .ref xk, .ref xn, .ref xb, .ref xz, .ref xm, .ref xs, .ref xp, .ref xd], ob xp 1 [.ref p1, .ref p2, .ref p3, .ref p4, .ref p5, .ref p6], aL E p1 5 y.2.2.2.1, aL E p2 5 y.2.2.2.2.1, aL E p3 5 y.2.2.2.2.2.1, aL E p4 4 y.2.2.2.2.2.2.1, aI E p5 4 y.2.2.2.2.2.2.2.1, aB E p6 17 y.2.2.2.2.2.2.2.2.1, aB E xt 800 ta, aB E xo 816 o, aB E xz 16 y.2.2.2.2.2.2.2.2.2.1, aB E xm 16 y.2.2.2.2.2.2.2.2.2.2]) 0 rfl rfl (c_C_fill l E xs c1 c2 xk xn xb 64 y.2.2.1 y.1 y.2.1 fk fn 0 (by omega) (by omega)) (gdV m154 m155 m156 m2 m157) rfl (by decide +kernel) ⟨by decide, by decide⟩ rfl rfl (Nat.le_of_ble_eq_true rfl) ⟨by decide, by decide⟩ [1, 2, 3, 4, 5, 6] [0, 7, 8, 9, 10, 11, 12, 13, 14, 15, 16, 17] rfl rfl (by decide) (by decide) (by decide) dS_sumSealed_17 (fun _ _ => ?_)
  show J E 5 g [ob h 3 [.ref xt, .int (nI tn), .ref xo, .int (nI on), .ref xk, .ref xn, .ref xb, .ref xz, .ref xm, .ref xs, .ref xp, .ref xd], ob xp 1 [.ref p1, .ref p2, .ref p3, .ref p4, .ref p5, .ref p6], aL E p1 5 y.2.2.2.1, aL E p2 5 y.2.2.2.2.1, aL E p3 5 y.2.2.2.2.2.1, aL E p4 4 y.2.2.2.2.2.2.1, aI E p5 4 y.2.2.2.2.2.2.2.1, aB E p6 17 y.2.2.2.2.2.2.2.2.1, aB E xt 800 ta, aB E xo 816 o, aB E xz 16 y.2.2.2.2.2.2.2.2.2.1, aB E xm 16 y.2.2.2.2.2.2.2.2.2.2, ob xs 0 [.ref c1, .ref c2], aI E c1 16 (layF y.1 fk fn 0), aI E c2 16 (mixF y.1 y.2.1 fk fn 0), aB E xk 32 fk, aB E xn 12 fn, aB E xb 64 (fillF y.2.2.1 y.1 y.2.1 fk fn 0)] [(0, .ref h), (1, .int (nI hd)), (2, .ref xo), (3, .int (nI f)), (4, .int (nI sz))] 0 0 20 []
  refine j_sub [0, 12, 13, 14, 15, 16, 17, 1, 2, 3, 4, 5, 6, 7, 8, 9, 10, 11] (ws' := [ob h 3 [.ref xt, .int (nI tn), .ref xo, .int (nI on), .ref xk, .ref xn, .ref xb, .ref xz, .ref xm, .ref xs, .ref xp, .ref xd], ob xs 0 [.ref c1, .ref c2], aI E c1 16 (layF y.1 fk fn 0), aI E c2 16 (mixF y.1 y.2.1 fk fn 0), aB E xk 32 fk, aB E xn 12 fn, aB E xb 64 (fillF y.2.2.1 y.1 y.2.1 fk fn 0), ob xp 1 [.ref p1, .ref p2, .ref p3, .ref p4, .ref p5, .ref p6], aL E p1 5 y.2.2.2.1, aL E p2 5 y.2.2.2.2.1, aL E p3 5 y.2.2.2.2.2.1, aL E p4 4 y.2.2.2.2.2.2.1, aI E p5 4 y.2.2.2.2.2.2.2.1, aB E p6 17 y.2.2.2.2.2.2.2.2.1, aB E xt 800 ta, aB E xo 816 o, aB E xz 16 y.2.2.2.2.2.2.2.2.2.1, aB E xm 16 y.2.2.2.2.2.2.2.2.2.2]) rfl (by decide) ?_
  show J E 5 g [ob h 3 [.ref xt, .int (nI tn), .ref xo, .int (nI on), .ref xk, .ref xn, .ref xb, .ref xz, .ref xm, .ref xs, .ref xp, .ref xd], ob xs 0 [.ref c1, .ref c2], aI E c1 16 (layF y.1 fk fn 0), aI E c2 16 (mixF y.1 y.2.1 fk fn 0), aB E xk 32 fk, aB E xn 12 fn, aB E xb 64 (ssB y fk fn), ob xp 1 [.ref p1, .ref p2, .ref p3, .ref p4, .ref p5, .ref p6], aL E p1 5 y.2.2.2.1, aL E p2 5 y.2.2.2.2.1, aL E p3 5 y.2.2.2.2.2.1, aL E p4 4 y.2.2.2.2.2.2.1, aI E p5 4 y.2.2.2.2.2.2.2.1, aB E p6 17 y.2.2.2.2.2.2.2.2.1, aB E xt 800 ta, aB E xo 816 o, aB E xz 16 y.2.2.2.2.2.2.2.2.2.1, aB E xm 16 y.2.2.2.2.2.2.2.2.2.2] [(0, .ref h), (1, .int (nI hd)), (2, .ref xo), (3, .int (nI f)), (4, .int (nI sz))] 0 0 20 []
  refine j_aload_n hg 0 dS_sumSealed_20 rfl rfl ?_
  refine j_get hg (C := RX3) (T := TX3) (N := 12) inX3 0 rfl rfl 10 (by decide) m93 rfl dS_sumSealed_21 ?_
  refine j_aload_n hg 0 dS_sumSealed_24 rfl rfl ?_
  refine j_get hg (C := RX3) (T := TX3) (N := 12) inX3 0 rfl rfl 6 (by decide) m89 rfl dS_sumSealed_25 ?_
  refine j_callV hg (n := 1) (y := yP_start) (rm := rm_P_start) (Ws := (cT yP_start cP_start 3 none)) (As := [.ref xb]) (rest := []) (wr := [ob h 3 [.ref xt, .int (nI tn), .ref xo, .int (nI on), .ref xk, .ref xn, .ref xb, .ref xz, .ref xm, .ref xs, .ref xp, .ref xd], ob xs 0 [.ref c1, .ref c2], aI E c1 16 (layF y.1 fk fn 0), aI E c2 16 (mixF y.1 y.2.1 fk fn 0), aB E xk 32 fk, aB E xn 12 fn, aL E p3 5 y.2.2.2.2.2.1, aL E p4 4 y.2.2.2.2.2.2.1, aB E xt 800 ta, aB E xo 816 o, aB E xz 16 y.2.2.2.2.2.2.2.2.2.1, aB E xm 16 y.2.2.2.2.2.2.2.2.2.2]) 0 rfl rfl (c_P_start l E xp p1 p2 p3 p4 p5 p6 xb 64 y.2.2.2.1 y.2.2.2.2.1 y.2.2.2.2.2.2.2.1 y.2.2.2.2.2.2.2.2.1 (ssB y fk fn) hsb.fillF (by omega) (by omega)) (gdV m192 m193 m194 m3 m195) rfl (by decide +kernel) ⟨by decide, by decide⟩ rfl rfl (Nat.le_of_ble_eq_true rfl) ⟨by decide, by decide⟩ [7, 8, 9, 12, 13, 6] [0, 1, 2, 3, 4, 5, 10, 11, 14, 15, 16, 17] rfl rfl (by decide) (by decide) (by decide) dS_sumSealed_28 (fun _ _ => ?_)
  show J E 5 g [ob h 3 [.ref xt, .int (nI tn), .ref xo, .int (nI on), .ref xk, .ref xn, .ref xb, .ref xz, .ref xm, .ref xs, .ref xp, .ref xd], ob xs 0 [.ref c1, .ref c2], aI E c1 16 (layF y.1 fk fn 0), aI E c2 16 (mixF y.1 y.2.1 fk fn 0), aB E xk 32 fk, aB E xn 12 fn, aL E p3 5 y.2.2.2.2.2.1, aL E p4 4 y.2.2.2.2.2.2.1, aB E xt 800 ta, aB E xo 816 o, aB E xz 16 y.2.2.2.2.2.2.2.2.2.1, aB E xm 16 y.2.2.2.2.2.2.2.2.2.2, ob xp 1 [.ref p1, .ref p2, .ref p3, .ref p4, .ref p5, .ref p6], aL E p1 5 (parts5 (kblk y.2.2.2.2.2.2.2.2.1 (ssB y fk fn)) y.2.2.2.1 5), aL E p2 5 (zeros5 y.2.2.2.2.1 5), aI E p5 4 (last4 (ssB y fk fn) y.2.2.2.2.2.2.2.1 4), aB E p6 17 (kblk y.2.2.2.2.2.2.2.2.1 (ssB y fk fn)), aB E xb 64 (ssB y fk fn)] [(0, .ref h), (1, .int (nI hd)), (2, .ref xo), (3, .int (nI f)), (4, .int (nI sz))] 0 0 31 []
  refine j_sub [0, 1, 2, 3, 4, 5, 17, 12, 13, 14, 6, 7, 15, 16, 8, 9, 10, 11] (ws' := [ob h 3 [.ref xt, .int (nI tn), .ref xo, .int (nI on), .ref xk, .ref xn, .ref xb, .ref xz, .ref xm, .ref xs, .ref xp, .ref xd], ob xs 0 [.ref c1, .ref c2], aI E c1 16 (layF y.1 fk fn 0), aI E c2 16 (mixF y.1 y.2.1 fk fn 0), aB E xk 32 fk, aB E xn 12 fn, aB E xb 64 (ssB y fk fn), ob xp 1 [.ref p1, .ref p2, .ref p3, .ref p4, .ref p5, .ref p6], aL E p1 5 (parts5 (kblk y.2.2.2.2.2.2.2.2.1 (ssB y fk fn)) y.2.2.2.1 5), aL E p2 5 (zeros5 y.2.2.2.2.1 5), aL E p3 5 y.2.2.2.2.2.1, aL E p4 4 y.2.2.2.2.2.2.1, aI E p5 4 (last4 (ssB y fk fn) y.2.2.2.2.2.2.2.1 4), aB E p6 17 (kblk y.2.2.2.2.2.2.2.2.1 (ssB y fk fn)), aB E xt 800 ta, aB E xo 816 o, aB E xz 16 y.2.2.2.2.2.2.2.2.2.1, aB E xm 16 y.2.2.2.2.2.2.2.2.2.2]) rfl (by decide) ?_
  show J E 5 g [ob h 3 [.ref xt, .int (nI tn), .ref xo, .int (nI on), .ref xk, .ref xn, .ref xb, .ref xz, .ref xm, .ref xs, .ref xp, .ref xd], ob xs 0 [.ref c1, .ref c2], aI E c1 16 (layF y.1 fk fn 0), aI E c2 16 (mixF y.1 y.2.1 fk fn 0), aB E xk 32 fk, aB E xn 12 fn, aB E xb 64 (ssB y fk fn), ob xp 1 [.ref p1, .ref p2, .ref p3, .ref p4, .ref p5, .ref p6], aL E p1 5 (ssR y fk fn), aL E p2 5 ((ps0 y.2.2.2.2.1 y.2.2.2.2.2.1 y.2.2.2.2.2.2.2.2.1 (ssB y fk fn)).1), aL E p3 5 ((ps0 y.2.2.2.2.1 y.2.2.2.2.2.1 y.2.2.2.2.2.2.2.2.1 (ssB y fk fn)).2.1), aL E p4 4 y.2.2.2.2.2.2.1, aI E p5 4 (last4 (ssB y fk fn) y.2.2.2.2.2.2.2.1 4), aB E p6 17 ((ps0 y.2.2.2.2.1 y.2.2.2.2.2.1 y.2.2.2.2.2.2.2.2.1 (ssB y fk fn)).2.2), aB E xt 800 ta, aB E xo 816 o, aB E xz 16 y.2.2.2.2.2.2.2.2.2.1, aB E xm 16 y.2.2.2.2.2.2.2.2.2.2] [(0, .ref h), (1, .int (nI hd)), (2, .ref xo), (3, .int (nI f)), (4, .int (nI sz))] 0 0 31 []
  refine j_aload_n hg 0 dS_sumSealed_31 rfl rfl ?_
  refine j_get hg (C := RX3) (T := TX3) (N := 12) inX3 0 rfl rfl 10 (by decide) m93 rfl dS_sumSealed_32 ?_
  refine j_aload_n hg 0 dS_sumSealed_35 rfl rfl ?_
  refine j_get hg (C := RX3) (T := TX3) (N := 12) inX3 0 rfl rfl 0 (by decide) m83 rfl dS_sumSealed_36 ?_
  refine j_iconst hg (v := 0) dS_sumSealed_39 (by decide) ?_
  refine j_iload_n hg 1 dS_sumSealed_40 rfl rfl ?_
  refine j_callV hg (n := 3) (y := yP_addPadded) (rm := rm_P_addPadded) (Ws := (cT yP_addPadded cP_addPadded 5 none)) (As := [.ref xt, .int 0, .int (nI hd)]) (rest := []) (wr := [ob h 3 [.ref xt, .int (nI tn), .ref xo, .int (nI on), .ref xk, .ref xn, .ref xb, .ref xz, .ref xm, .ref xs, .ref xp, .ref xd], ob xs 0 [.ref c1, .ref c2], aI E c1 16 (layF y.1 fk fn 0), aI E c2 16 (mixF y.1 y.2.1 fk fn 0), aB E xk 32 fk, aB E xn 12 fn, aB E xb 64 (ssB y fk fn), aL E p4 4 y.2.2.2.2.2.2.1, aI E p5 4 (last4 (ssB y fk fn) y.2.2.2.2.2.2.2.1 4), aB E xo 816 o, aB E xz 16 y.2.2.2.2.2.2.2.2.2.1, aB E xm 16 y.2.2.2.2.2.2.2.2.2.2]) 0 rfl rfl (c_P_addPadded l E xp p1 p2 p3 p4 p5 p6 xt 800 (ssR y fk fn) ((ps0 y.2.2.2.2.1 y.2.2.2.2.2.1 y.2.2.2.2.2.2.2.2.1 (ssB y fk fn))) ta 0 hd hta (by omega) (by omega)) (gdV m253 m254 m255 m3 m256) rfl (by decide +kernel) ⟨by decide, by decide⟩ rfl rfl (Nat.le_of_ble_eq_true rfl) ⟨by decide, by decide⟩ [7, 8, 9, 10, 13, 14] [0, 1, 2, 3, 4, 5, 6, 11, 12, 15, 16, 17] rfl rfl (by decide) (by decide) (by decide) dS_sumSealed_41 (fun _ _ => ?_)
  show J E 5 g [ob h 3 [.ref xt, .int (nI tn), .ref xo, .int (nI on), .ref xk, .ref xn, .ref xb, .ref xz, .ref xm, .ref xs, .ref xp, .ref xd], ob xs 0 [.ref c1, .ref c2], aI E c1 16 (layF y.1 fk fn 0), aI E c2 16 (mixF y.1 y.2.1 fk fn 0), aB E xk 32 fk, aB E xn 12 fn, aB E xb 64 (ssB y fk fn), aL E p4 4 y.2.2.2.2.2.2.1, aI E p5 4 (last4 (ssB y fk fn) y.2.2.2.2.2.2.2.1 4), aB E xo 816 o, aB E xz 16 y.2.2.2.2.2.2.2.2.2.1, aB E xm 16 y.2.2.2.2.2.2.2.2.2.2, ob xp 1 [.ref p1, .ref p2, .ref p3, .ref p4, .ref p5, .ref p6], aL E p1 5 (ssR y fk fn), aL E p2 5 ((ppadF (ssR y fk fn) ((ps0 y.2.2.2.2.1 y.2.2.2.2.2.1 y.2.2.2.2.2.2.2.2.1 (ssB y fk fn))) ta 0 hd ((hd + 15) / 16)).1), aL E p3 5 ((ppadF (ssR y fk fn) ((ps0 y.2.2.2.2.1 y.2.2.2.2.2.1 y.2.2.2.2.2.2.2.2.1 (ssB y fk fn))) ta 0 hd ((hd + 15) / 16)).2.1), aB E p6 17 ((ppadF (ssR y fk fn) ((ps0 y.2.2.2.2.1 y.2.2.2.2.2.1 y.2.2.2.2.2.2.2.2.1 (ssB y fk fn))) ta 0 hd ((hd + 15) / 16)).2.2), aB E xt 800 ta] [(0, .ref h), (1, .int (nI hd)), (2, .ref xo), (3, .int (nI f)), (4, .int (nI sz))] 0 0 44 []
  refine j_aload_n hg 0 dS_sumSealed_44 rfl rfl ?_
  refine j_get hg (C := RX3) (T := TX3) (N := 12) inX3 0 rfl rfl 10 (by decide) m93 rfl dS_sumSealed_45 ?_
  refine j_aload_n hg 2 dS_sumSealed_48 rfl rfl ?_
  refine j_iload_n hg 3 dS_sumSealed_49 rfl rfl ?_
  refine j_iload hg 4 dS_sumSealed_50 rfl ?_
  refine j_callV hg (n := 3) (y := yP_addPadded) (rm := rm_P_addPadded) (Ws := (cT yP_addPadded cP_addPadded 5 none)) (As := [.ref xo, .int (nI f), .int (nI sz)]) (rest := []) (wr := [ob h 3 [.ref xt, .int (nI tn), .ref xo, .int (nI on), .ref xk, .ref xn, .ref xb, .ref xz, .ref xm, .ref xs, .ref xp, .ref xd], ob xs 0 [.ref c1, .ref c2], aI E c1 16 (layF y.1 fk fn 0), aI E c2 16 (mixF y.1 y.2.1 fk fn 0), aB E xk 32 fk, aB E xn 12 fn, aB E xb 64 (ssB y fk fn), aL E p4 4 y.2.2.2.2.2.2.1, aI E p5 4 (last4 (ssB y fk fn) y.2.2.2.2.2.2.2.1 4), aB E xz 16 y.2.2.2.2.2.2.2.2.2.1, aB E xm 16 y.2.2.2.2.2.2.2.2.2.2, aB E xt 800 ta]) 0 rfl rfl (c_P_addPadded l E xp p1 p2 p3 p4 p5 p6 xo 816 (ssR y fk fn) ((ppadF (ssR y fk fn) ((ps0 y.2.2.2.2.1 y.2.2.2.2.2.1 y.2.2.2.2.2.2.2.2.1 (ssB y fk fn))) ta 0 hd ((hd + 15) / 16))) o f sz ho (by omega) (by omega)) (gdV m253 m254 m255 m3 m256) rfl (by decide +kernel) ⟨by decide, by decide⟩ rfl rfl (Nat.le_of_ble_eq_true rfl) ⟨by decide, by decide⟩ [12, 13, 14, 15, 16, 9] [0, 1, 2, 3, 4, 5, 6, 7, 8, 10, 11, 17] rfl rfl (by decide) (by decide) (by decide) dS_sumSealed_52 (fun _ _ => ?_)
  show J E 5 g [ob h 3 [.ref xt, .int (nI tn), .ref xo, .int (nI on), .ref xk, .ref xn, .ref xb, .ref xz, .ref xm, .ref xs, .ref xp, .ref xd], ob xs 0 [.ref c1, .ref c2], aI E c1 16 (layF y.1 fk fn 0), aI E c2 16 (mixF y.1 y.2.1 fk fn 0), aB E xk 32 fk, aB E xn 12 fn, aB E xb 64 (ssB y fk fn), aL E p4 4 y.2.2.2.2.2.2.1, aI E p5 4 (last4 (ssB y fk fn) y.2.2.2.2.2.2.2.1 4), aB E xz 16 y.2.2.2.2.2.2.2.2.2.1, aB E xm 16 y.2.2.2.2.2.2.2.2.2.2, aB E xt 800 ta, ob xp 1 [.ref p1, .ref p2, .ref p3, .ref p4, .ref p5, .ref p6], aL E p1 5 (ssR y fk fn), aL E p2 5 ((ppadF (ssR y fk fn) ((ppadF (ssR y fk fn) ((ps0 y.2.2.2.2.1 y.2.2.2.2.2.1 y.2.2.2.2.2.2.2.2.1 (ssB y fk fn))) ta 0 hd ((hd + 15) / 16))) o f sz ((sz + 15) / 16)).1), aL E p3 5 ((ppadF (ssR y fk fn) ((ppadF (ssR y fk fn) ((ps0 y.2.2.2.2.1 y.2.2.2.2.2.1 y.2.2.2.2.2.2.2.2.1 (ssB y fk fn))) ta 0 hd ((hd + 15) / 16))) o f sz ((sz + 15) / 16)).2.1), aB E p6 17 ((ppadF (ssR y fk fn) ((ppadF (ssR y fk fn) ((ps0 y.2.2.2.2.1 y.2.2.2.2.2.1 y.2.2.2.2.2.2.2.2.1 (ssB y fk fn))) ta 0 hd ((hd + 15) / 16))) o f sz ((sz + 15) / 16)).2.2), aB E xo 816 o] [(0, .ref h), (1, .int (nI hd)), (2, .ref xo), (3, .int (nI f)), (4, .int (nI sz))] 0 0 55 []
  refine j_aload_n hg 0 dS_sumSealed_55 rfl rfl ?_
  refine j_get hg (C := RX3) (T := TX3) (N := 12) inX3 0 rfl rfl 7 (by decide) m90 rfl dS_sumSealed_56 ?_
  refine j_iconst hg (v := 0) dS_sumSealed_59 (by decide) ?_
  refine j_iload_n hg 1 dS_sumSealed_60 rfl rfl ?_
  refine j_callS hg (n := 3) (y := yS_writeLowestFirst) (rm := rm_S_writeLowestFirst) (Ws := (cT yS_writeLowestFirst cS_writeLowestFirst 3 none)) (As := [.ref xz, .int 0, .int (nI hd)]) (rest := []) (wr := [ob h 3 [.ref xt, .int (nI tn), .ref xo, .int (nI on), .ref xk, .ref xn, .ref xb, .ref xz, .ref xm, .ref xs, .ref xp, .ref xd], ob xs 0 [.ref c1, .ref c2], aI E c1 16 (layF y.1 fk fn 0), aI E c2 16 (mixF y.1 y.2.1 fk fn 0), aB E xk 32 fk, aB E xn 12 fn, aB E xb 64 (ssB y fk fn), aL E p4 4 y.2.2.2.2.2.2.1, aI E p5 4 (last4 (ssB y fk fn) y.2.2.2.2.2.2.2.1 4), aB E xm 16 y.2.2.2.2.2.2.2.2.2.2, aB E xt 800 ta, ob xp 1 [.ref p1, .ref p2, .ref p3, .ref p4, .ref p5, .ref p6], aL E p1 5 (ssR y fk fn), aL E p2 5 ((ppadF (ssR y fk fn) ((ppadF (ssR y fk fn) ((ps0 y.2.2.2.2.1 y.2.2.2.2.2.1 y.2.2.2.2.2.2.2.2.1 (ssB y fk fn))) ta 0 hd ((hd + 15) / 16))) o f sz ((sz + 15) / 16)).1), aL E p3 5 ((ppadF (ssR y fk fn) ((ppadF (ssR y fk fn) ((ps0 y.2.2.2.2.1 y.2.2.2.2.2.1 y.2.2.2.2.2.2.2.2.1 (ssB y fk fn))) ta 0 hd ((hd + 15) / 16))) o f sz ((sz + 15) / 16)).2.1), aB E p6 17 ((ppadF (ssR y fk fn) ((ppadF (ssR y fk fn) ((ps0 y.2.2.2.2.1 y.2.2.2.2.2.1 y.2.2.2.2.2.2.2.2.1 (ssB y fk fn))) ta 0 hd ((hd + 15) / 16))) o f sz ((sz + 15) / 16)).2.2), aB E xo 816 o]) (c_S_writeLowestFirst l E xz 16 y.2.2.2.2.2.2.2.2.2.1 0 (nI hd) (by omega) (by omega)) (gdS m257 m186 m1 m187) rfl (by decide +kernel) ⟨by decide, by decide⟩ rfl rfl (Nat.le_of_ble_eq_true rfl) ⟨by decide, by decide⟩ [9] [0, 1, 2, 3, 4, 5, 6, 7, 8, 10, 11, 12, 13, 14, 15, 16, 17] rfl rfl (by decide) (by decide) (by decide) dS_sumSealed_61 (fun _ _ => ?_)
  show J E 5 g [ob h 3 [.ref xt, .int (nI tn), .ref xo, .int (nI on), .ref xk, .ref xn, .ref xb, .ref xz, .ref xm, .ref xs, .ref xp, .ref xd], ob xs 0 [.ref c1, .ref c2], aI E c1 16 (layF y.1 fk fn 0), aI E c2 16 (mixF y.1 y.2.1 fk fn 0), aB E xk 32 fk, aB E xn 12 fn, aB E xb 64 (ssB y fk fn), aL E p4 4 y.2.2.2.2.2.2.1, aI E p5 4 (last4 (ssB y fk fn) y.2.2.2.2.2.2.2.1 4), aB E xm 16 y.2.2.2.2.2.2.2.2.2.2, aB E xt 800 ta, ob xp 1 [.ref p1, .ref p2, .ref p3, .ref p4, .ref p5, .ref p6], aL E p1 5 (ssR y fk fn), aL E p2 5 ((ppadF (ssR y fk fn) ((ppadF (ssR y fk fn) ((ps0 y.2.2.2.2.1 y.2.2.2.2.2.1 y.2.2.2.2.2.2.2.2.1 (ssB y fk fn))) ta 0 hd ((hd + 15) / 16))) o f sz ((sz + 15) / 16)).1), aL E p3 5 ((ppadF (ssR y fk fn) ((ppadF (ssR y fk fn) ((ps0 y.2.2.2.2.1 y.2.2.2.2.2.1 y.2.2.2.2.2.2.2.2.1 (ssB y fk fn))) ta 0 hd ((hd + 15) / 16))) o f sz ((sz + 15) / 16)).2.1), aB E p6 17 ((ppadF (ssR y fk fn) ((ppadF (ssR y fk fn) ((ps0 y.2.2.2.2.1 y.2.2.2.2.2.1 y.2.2.2.2.2.2.2.2.1 (ssB y fk fn))) ta 0 hd ((hd + 15) / 16))) o f sz ((sz + 15) / 16)).2.2), aB E xo 816 o, aB E xz 16 (wl y.2.2.2.2.2.2.2.2.2.1 0 (nI hd))] [(0, .ref h), (1, .int (nI hd)), (2, .ref xo), (3, .int (nI f)), (4, .int (nI sz))] 0 0 64 []
  refine j_aload_n hg 0 dS_sumSealed_64 rfl rfl ?_
  refine j_get hg (C := RX3) (T := TX3) (N := 12) inX3 0 rfl rfl 7 (by decide) m90 rfl dS_sumSealed_65 ?_
  refine j_bipush hg (v := 8) dS_sumSealed_68 (by decide) ?_
  refine j_iload hg 4 dS_sumSealed_70 rfl ?_
  refine j_callS hg (n := 3) (y := yS_writeLowestFirst) (rm := rm_S_writeLowestFirst) (Ws := (cT yS_writeLowestFirst cS_writeLowestFirst 3 none)) (As := [.ref xz, .int 8, .int (nI sz)]) (rest := []) (wr := [ob h 3 [.ref xt, .int (nI tn), .ref xo, .int (nI on), .ref xk, .ref xn, .ref xb, .ref xz, .ref xm, .ref xs, .ref xp, .ref xd], ob xs 0 [.ref c1, .ref c2], aI E c1 16 (layF y.1 fk fn 0), aI E c2 16 (mixF y.1 y.2.1 fk fn 0), aB E xk 32 fk, aB E xn 12 fn, aB E xb 64 (ssB y fk fn), aL E p4 4 y.2.2.2.2.2.2.1, aI E p5 4 (last4 (ssB y fk fn) y.2.2.2.2.2.2.2.1 4), aB E xm 16 y.2.2.2.2.2.2.2.2.2.2, aB E xt 800 ta, ob xp 1 [.ref p1, .ref p2, .ref p3, .ref p4, .ref p5, .ref p6], aL E p1 5 (ssR y fk fn), aL E p2 5 ((ppadF (ssR y fk fn) ((ppadF (ssR y fk fn) ((ps0 y.2.2.2.2.1 y.2.2.2.2.2.1 y.2.2.2.2.2.2.2.2.1 (ssB y fk fn))) ta 0 hd ((hd + 15) / 16))) o f sz ((sz + 15) / 16)).1), aL E p3 5 ((ppadF (ssR y fk fn) ((ppadF (ssR y fk fn) ((ps0 y.2.2.2.2.1 y.2.2.2.2.2.1 y.2.2.2.2.2.2.2.2.1 (ssB y fk fn))) ta 0 hd ((hd + 15) / 16))) o f sz ((sz + 15) / 16)).2.1), aB E p6 17 ((ppadF (ssR y fk fn) ((ppadF (ssR y fk fn) ((ps0 y.2.2.2.2.1 y.2.2.2.2.2.1 y.2.2.2.2.2.2.2.2.1 (ssB y fk fn))) ta 0 hd ((hd + 15) / 16))) o f sz ((sz + 15) / 16)).2.2), aB E xo 816 o]) (c_S_writeLowestFirst l E xz 16 (wl y.2.2.2.2.2.2.2.2.2.1 0 (nI hd)) 8 (nI sz) (by omega) (by omega)) (gdS m257 m186 m1 m187) rfl (by decide +kernel) ⟨by decide, by decide⟩ rfl rfl (Nat.le_of_ble_eq_true rfl) ⟨by decide, by decide⟩ [17] [0, 1, 2, 3, 4, 5, 6, 7, 8, 9, 10, 11, 12, 13, 14, 15, 16] rfl rfl (by decide) (by decide) (by decide) dS_sumSealed_72 (fun _ _ => ?_)
  show J E 5 g [ob h 3 [.ref xt, .int (nI tn), .ref xo, .int (nI on), .ref xk, .ref xn, .ref xb, .ref xz, .ref xm, .ref xs, .ref xp, .ref xd], ob xs 0 [.ref c1, .ref c2], aI E c1 16 (layF y.1 fk fn 0), aI E c2 16 (mixF y.1 y.2.1 fk fn 0), aB E xk 32 fk, aB E xn 12 fn, aB E xb 64 (ssB y fk fn), aL E p4 4 y.2.2.2.2.2.2.1, aI E p5 4 (last4 (ssB y fk fn) y.2.2.2.2.2.2.2.1 4), aB E xm 16 y.2.2.2.2.2.2.2.2.2.2, aB E xt 800 ta, ob xp 1 [.ref p1, .ref p2, .ref p3, .ref p4, .ref p5, .ref p6], aL E p1 5 (ssR y fk fn), aL E p2 5 ((ppadF (ssR y fk fn) ((ppadF (ssR y fk fn) ((ps0 y.2.2.2.2.1 y.2.2.2.2.2.1 y.2.2.2.2.2.2.2.2.1 (ssB y fk fn))) ta 0 hd ((hd + 15) / 16))) o f sz ((sz + 15) / 16)).1), aL E p3 5 ((ppadF (ssR y fk fn) ((ppadF (ssR y fk fn) ((ps0 y.2.2.2.2.1 y.2.2.2.2.2.1 y.2.2.2.2.2.2.2.2.1 (ssB y fk fn))) ta 0 hd ((hd + 15) / 16))) o f sz ((sz + 15) / 16)).2.1), aB E p6 17 ((ppadF (ssR y fk fn) ((ppadF (ssR y fk fn) ((ps0 y.2.2.2.2.1 y.2.2.2.2.2.1 y.2.2.2.2.2.2.2.2.1 (ssB y fk fn))) ta 0 hd ((hd + 15) / 16))) o f sz ((sz + 15) / 16)).2.2), aB E xo 816 o, aB E xz 16 (wl (wl y.2.2.2.2.2.2.2.2.2.1 0 (nI hd)) 8 (nI sz))] [(0, .ref h), (1, .int (nI hd)), (2, .ref xo), (3, .int (nI f)), (4, .int (nI sz))] 0 0 75 []
  refine j_aload_n hg 0 dS_sumSealed_75 rfl rfl ?_
  refine j_get hg (C := RX3) (T := TX3) (N := 12) inX3 0 rfl rfl 10 (by decide) m93 rfl dS_sumSealed_76 ?_
  refine j_aload_n hg 0 dS_sumSealed_79 rfl rfl ?_
  refine j_get hg (C := RX3) (T := TX3) (N := 12) inX3 0 rfl rfl 7 (by decide) m90 rfl dS_sumSealed_80 ?_
  refine j_iconst hg (v := 0) dS_sumSealed_83 (by decide) ?_
  refine j_bipush hg (v := 16) dS_sumSealed_84 (by decide) ?_
  refine j_callV hg (n := 3) (y := yP_add) (rm := rm_P_add) (Ws := (cT yP_add cP_add 6 none)) (As := [.ref xz, .int 0, .int 16]) (rest := []) (wr := [ob h 3 [.ref xt, .int (nI tn), .ref xo, .int (nI on), .ref xk, .ref xn, .ref xb, .ref xz, .ref xm, .ref xs, .ref xp, .ref xd], ob xs 0 [.ref c1, .ref c2], aI E c1 16 (layF y.1 fk fn 0), aI E c2 16 (mixF y.1 y.2.1 fk fn 0), aB E xk 32 fk, aB E xn 12 fn, aB E xb 64 (ssB y fk fn), aL E p4 4 y.2.2.2.2.2.2.1, aI E p5 4 (last4 (ssB y fk fn) y.2.2.2.2.2.2.2.1 4), aB E xm 16 y.2.2.2.2.2.2.2.2.2.2, aB E xt 800 ta, aB E xo 816 o]) 0 rfl rfl (c_P_add l E xp p1 p2 p3 p4 p5 p6 xz 16 (ssR y fk fn) ((ppadF (ssR y fk fn) ((ppadF (ssR y fk fn) ((ps0 y.2.2.2.2.1 y.2.2.2.2.2.1 y.2.2.2.2.2.2.2.2.1 (ssB y fk fn))) ta 0 hd ((hd + 15) / 16))) o f sz ((sz + 15) / 16))) (wl (wl y.2.2.2.2.2.2.2.2.2.1 0 (nI hd)) 8 (nI sz)) 0 16 hz.wl.wl (by omega) (by omega)) (gdV m208 m209 m210 m3 m211) rfl (by decide +kernel) ⟨by decide, by decide⟩ rfl rfl (Nat.le_of_ble_eq_true rfl) ⟨by decide, by decide⟩ [11, 12, 13, 14, 15, 17] [0, 1, 2, 3, 4, 5, 6, 7, 8, 9, 10, 16] rfl rfl (by decide) (by decide) (by decide) dS_sumSealed_86 (fun _ _ => ?_)
  show J E 5 g [ob h 3 [.ref xt, .int (nI tn), .ref xo, .int (nI on), .ref xk, .ref xn, .ref xb, .ref xz, .ref xm, .ref xs, .ref xp, .ref xd], ob xs 0 [.ref c1, .ref c2], aI E c1 16 (layF y.1 fk fn 0), aI E c2 16 (mixF y.1 y.2.1 fk fn 0), aB E xk 32 fk, aB E xn 12 fn, aB E xb 64 (ssB y fk fn), aL E p4 4 y.2.2.2.2.2.2.1, aI E p5 4 (last4 (ssB y fk fn) y.2.2.2.2.2.2.2.1 4), aB E xm 16 y.2.2.2.2.2.2.2.2.2.2, aB E xt 800 ta, aB E xo 816 o, ob xp 1 [.ref p1, .ref p2, .ref p3, .ref p4, .ref p5, .ref p6], aL E p1 5 (ssR y fk fn), aL E p2 5 ((paddF (ssR y fk fn) ((ppadF (ssR y fk fn) ((ppadF (ssR y fk fn) ((ps0 y.2.2.2.2.1 y.2.2.2.2.2.1 y.2.2.2.2.2.2.2.2.1 (ssB y fk fn))) ta 0 hd ((hd + 15) / 16))) o f sz ((sz + 15) / 16))) (wl (wl y.2.2.2.2.2.2.2.2.2.1 0 (nI hd)) 8 (nI sz)) 0 16 ((16 + 15) / 16)).1), aL E p3 5 ((paddF (ssR y fk fn) ((ppadF (ssR y fk fn) ((ppadF (ssR y fk fn) ((ps0 y.2.2.2.2.1 y.2.2.2.2.2.1 y.2.2.2.2.2.2.2.2.1 (ssB y fk fn))) ta 0 hd ((hd + 15) / 16))) o f sz ((sz + 15) / 16))) (wl (wl y.2.2.2.2.2.2.2.2.2.1 0 (nI hd)) 8 (nI sz)) 0 16 ((16 + 15) / 16)).2.1), aB E p6 17 ((paddF (ssR y fk fn) ((ppadF (ssR y fk fn) ((ppadF (ssR y fk fn) ((ps0 y.2.2.2.2.1 y.2.2.2.2.2.1 y.2.2.2.2.2.2.2.2.1 (ssB y fk fn))) ta 0 hd ((hd + 15) / 16))) o f sz ((sz + 15) / 16))) (wl (wl y.2.2.2.2.2.2.2.2.2.1 0 (nI hd)) 8 (nI sz)) 0 16 ((16 + 15) / 16)).2.2), aB E xz 16 (wl (wl y.2.2.2.2.2.2.2.2.2.1 0 (nI hd)) 8 (nI sz))] [(0, .ref h), (1, .int (nI hd)), (2, .ref xo), (3, .int (nI f)), (4, .int (nI sz))] 0 0 89 []
  refine j_sub [0, 1, 2, 3, 4, 5, 6, 12, 13, 14, 15, 7, 8, 16, 10, 11, 17, 9] (ws' := [ob h 3 [.ref xt, .int (nI tn), .ref xo, .int (nI on), .ref xk, .ref xn, .ref xb, .ref xz, .ref xm, .ref xs, .ref xp, .ref xd], ob xs 0 [.ref c1, .ref c2], aI E c1 16 (layF y.1 fk fn 0), aI E c2 16 (mixF y.1 y.2.1 fk fn 0), aB E xk 32 fk, aB E xn 12 fn, aB E xb 64 (ssB y fk fn), ob xp 1 [.ref p1, .ref p2, .ref p3, .ref p4, .ref p5, .ref p6], aL E p1 5 (ssR y fk fn), aL E p2 5 ((paddF (ssR y fk fn) ((ppadF (ssR y fk fn) ((ppadF (ssR y fk fn) ((ps0 y.2.2.2.2.1 y.2.2.2.2.2.1 y.2.2.2.2.2.2.2.2.1 (ssB y fk fn))) ta 0 hd ((hd + 15) / 16))) o f sz ((sz + 15) / 16))) (wl (wl y.2.2.2.2.2.2.2.2.2.1 0 (nI hd)) 8 (nI sz)) 0 16 ((16 + 15) / 16)).1), aL E p3 5 ((paddF (ssR y fk fn) ((ppadF (ssR y fk fn) ((ppadF (ssR y fk fn) ((ps0 y.2.2.2.2.1 y.2.2.2.2.2.1 y.2.2.2.2.2.2.2.2.1 (ssB y fk fn))) ta 0 hd ((hd + 15) / 16))) o f sz ((sz + 15) / 16))) (wl (wl y.2.2.2.2.2.2.2.2.2.1 0 (nI hd)) 8 (nI sz)) 0 16 ((16 + 15) / 16)).2.1), aL E p4 4 y.2.2.2.2.2.2.1, aI E p5 4 (last4 (ssB y fk fn) y.2.2.2.2.2.2.2.1 4), aB E p6 17 ((paddF (ssR y fk fn) ((ppadF (ssR y fk fn) ((ppadF (ssR y fk fn) ((ps0 y.2.2.2.2.1 y.2.2.2.2.2.1 y.2.2.2.2.2.2.2.2.1 (ssB y fk fn))) ta 0 hd ((hd + 15) / 16))) o f sz ((sz + 15) / 16))) (wl (wl y.2.2.2.2.2.2.2.2.2.1 0 (nI hd)) 8 (nI sz)) 0 16 ((16 + 15) / 16)).2.2), aB E xt 800 ta, aB E xo 816 o, aB E xz 16 (wl (wl y.2.2.2.2.2.2.2.2.2.1 0 (nI hd)) 8 (nI sz)), aB E xm 16 y.2.2.2.2.2.2.2.2.2.2]) rfl (by decide) ?_
  show J E 5 g [ob h 3 [.ref xt, .int (nI tn), .ref xo, .int (nI on), .ref xk, .ref xn, .ref xb, .ref xz, .ref xm, .ref xs, .ref xp, .ref xd], ob xs 0 [.ref c1, .ref c2], aI E c1 16 (layF y.1 fk fn 0), aI E c2 16 (mixF y.1 y.2.1 fk fn 0), aB E xk 32 fk, aB E xn 12 fn, aB E xb 64 (ssB y fk fn), ob xp 1 [.ref p1, .ref p2, .ref p3, .ref p4, .ref p5, .ref p6], aL E p1 5 (ssR y fk fn), aL E p2 5 ((ssX y fk fn ta o hd f sz).1), aL E p3 5 ((ssX y fk fn ta o hd f sz).2.1), aL E p4 4 y.2.2.2.2.2.2.1, aI E p5 4 (last4 (ssB y fk fn) y.2.2.2.2.2.2.2.1 4), aB E p6 17 ((ssX y fk fn ta o hd f sz).2.2), aB E xt 800 ta, aB E xo 816 o, aB E xz 16 (ssZ y.2.2.2.2.2.2.2.2.2.1 hd sz), aB E xm 16 y.2.2.2.2.2.2.2.2.2.2] [(0, .ref h), (1, .int (nI hd)), (2, .ref xo), (3, .int (nI f)), (4, .int (nI sz))] 0 0 89 []
  rw [ssF_eq] at hR
  refine j_aload_n hg 0 dS_sumSealed_89 rfl rfl ?_
  refine j_get hg (C := RX3) (T := TX3) (N := 12) inX3 0 rfl rfl 10 (by decide) m93 rfl dS_sumSealed_90 ?_
  refine j_aload_n hg 0 dS_sumSealed_93 rfl rfl ?_
  refine j_get hg (C := RX3) (T := TX3) (N := 12) inX3 0 rfl rfl 8 (by decide) m91 rfl dS_sumSealed_94 ?_
  refine j_iconst hg (v := 0) dS_sumSealed_97 (by decide) ?_
  refine j_callV hg (n := 2) (y := yP_finish) (rm := rm_P_finish) (Ws := (cT yP_finish cP_finish 6 none)) (As := [.ref xm, .int 0]) (rest := []) (wr := [ob h 3 [.ref xt, .int (nI tn), .ref xo, .int (nI on), .ref xk, .ref xn, .ref xb, .ref xz, .ref xm, .ref xs, .ref xp, .ref xd], ob xs 0 [.ref c1, .ref c2], aI E c1 16 (layF y.1 fk fn 0), aI E c2 16 (mixF y.1 y.2.1 fk fn 0), aB E xk 32 fk, aB E xn 12 fn, aB E xb 64 (ssB y fk fn), aL E p1 5 (ssR y fk fn), aB E p6 17 ((ssX y fk fn ta o hd f sz).2.2), aB E xt 800 ta, aB E xo 816 o, aB E xz 16 (ssZ y.2.2.2.2.2.2.2.2.2.1 hd sz)]) 0 rfl rfl (c_P_finish l E xp p1 p2 p3 p4 p5 p6 xm 16 ((ssX y fk fn ta o hd f sz).1) ((ssX y fk fn ta o hd f sz).2.1) y.2.2.2.2.2.2.1 (last4 (ssB y fk fn) y.2.2.2.2.2.2.2.1 4) y.2.2.2.2.2.2.2.2.2.2 0 (by omega) (by omega)) (gdV m231 m232 m233 m3 m234) rfl (by decide +kernel) ⟨by decide, by decide⟩ rfl rfl (Nat.le_of_ble_eq_true rfl) ⟨by decide, by decide⟩ [7, 9, 10, 11, 12, 17] [0, 1, 2, 3, 4, 5, 6, 8, 13, 14, 15, 16] rfl rfl (by decide) (by decide) (by decide) dS_sumSealed_98 (fun _ _ => ?_)
  show J E 5 g [ob h 3 [.ref xt, .int (nI tn), .ref xo, .int (nI on), .ref xk, .ref xn, .ref xb, .ref xz, .ref xm, .ref xs, .ref xp, .ref xd], ob xs 0 [.ref c1, .ref c2], aI E c1 16 (layF y.1 fk fn 0), aI E c2 16 (mixF y.1 y.2.1 fk fn 0), aB E xk 32 fk, aB E xn 12 fn, aB E xb 64 (ssB y fk fn), aL E p1 5 (ssR y fk fn), aB E p6 17 ((ssX y fk fn ta o hd f sz).2.2), aB E xt 800 ta, aB E xo 816 o, aB E xz 16 (ssZ y.2.2.2.2.2.2.2.2.2.1 hd sz), ob xp 1 [.ref p1, .ref p2, .ref p3, .ref p4, .ref p5, .ref p6], aL E p2 5 (finT ((ssX y fk fn ta o hd f sz).1) ((ssX y fk fn ta o hd f sz).2.1)), aL E p3 5 (tpP (car ((ssX y fk fn ta o hd f sz).1)) ((ssX y fk fn ta o hd f sz).2.1) 5), aL E p4 4 (words4 (finT ((ssX y fk fn ta o hd f sz).1) ((ssX y fk fn ta o hd f sz).2.1)) y.2.2.2.2.2.2.1), aI E p5 4 (last4 (ssB y fk fn) y.2.2.2.2.2.2.2.1 4), aB E xm 16 ((foS (words4 (finT ((ssX y fk fn ta o hd f sz).1) ((ssX y fk fn ta o hd f sz).2.1)) y.2.2.2.2.2.2.1) (last4 (ssB y fk fn) y.2.2.2.2.2.2.2.1 4) y.2.2.2.2.2.2.2.2.2.2 0 4).2)] [(0, .ref h), (1, .int (nI hd)), (2, .ref xo), (3, .int (nI f)), (4, .int (nI sz))] 0 0 101 []
  exact j_vret hg hR () trivial rfl [0, 1, 2, 3, 4, 5, 6, 12, 7, 13, 14, 15, 16, 8, 9, 10, 11, 17] rfl (by decide) (by decide) (by decide) dS_sumSealed_101

set_option maxHeartbeats 1000000 in
set_option maxRecDepth 100000 in
theorem c_S_sumSealed_t (l : Launch) (E : Ev) (h xt xo xk xn xb xz xm xs xp xd : Nat) (tn on : Nat) (c1 c2 p1 p2 p3 p4 p5 p6 : Nat) (fk fn ta : Nat → Int32) (y : SS) (hd f sz : Nat) (hsb : Byt y.2.2.1) (hta : Byt ta) (hz : Byt y.2.2.2.2.2.2.2.2.2.1) (h1 : hd ≤ 800) (h2 : f + sz ≤ 800) : MC E l yS_sumSealed (cT yS_sumSealed cS_sumSealed 5 none) rm_S_sumSealed [.ref h, .int (nI hd), .ref xt, .int (nI f), .int (nI sz)] [ob h 3 [.ref xt, .int (nI tn), .ref xo, .int (nI on), .ref xk, .ref xn, .ref xb, .ref xz, .ref xm, .ref xs, .ref xp, .ref xd], ob xs 0 [.ref c1, .ref c2], aI E c1 16 y.1, aI E c2 16 y.2.1, aB E xk 32 fk, aB E xn 12 fn, aB E xb 64 y.2.2.1, ob xp 1 [.ref p1, .ref p2, .ref p3, .ref p4, .ref p5, .ref p6], aL E p1 5 y.2.2.2.1, aL E p2 5 y.2.2.2.2.1, aL E p3 5 y.2.2.2.2.2.1, aL E p4 4 y.2.2.2.2.2.2.1, aI E p5 4 y.2.2.2.2.2.2.2.1, aB E p6 17 y.2.2.2.2.2.2.2.2.1, aB E xt 800 ta, aB E xz 16 y.2.2.2.2.2.2.2.2.2.1, aB E xm 16 y.2.2.2.2.2.2.2.2.2.2] Unit (fun _ => True) (fun _ => none) (fun _ => [ob h 3 [.ref xt, .int (nI tn), .ref xo, .int (nI on), .ref xk, .ref xn, .ref xb, .ref xz, .ref xm, .ref xs, .ref xp, .ref xd], ob xs 0 [.ref c1, .ref c2], aI E c1 16 ((ssF y fk fn ta ta hd f sz).1), aI E c2 16 ((ssF y fk fn ta ta hd f sz).2.1), aB E xk 32 fk, aB E xn 12 fn, aB E xb 64 ((ssF y fk fn ta ta hd f sz).2.2.1), ob xp 1 [.ref p1, .ref p2, .ref p3, .ref p4, .ref p5, .ref p6], aL E p1 5 ((ssF y fk fn ta ta hd f sz).2.2.2.1), aL E p2 5 ((ssF y fk fn ta ta hd f sz).2.2.2.2.1), aL E p3 5 ((ssF y fk fn ta ta hd f sz).2.2.2.2.2.1), aL E p4 4 ((ssF y fk fn ta ta hd f sz).2.2.2.2.2.2.1), aI E p5 4 ((ssF y fk fn ta ta hd f sz).2.2.2.2.2.2.2.1), aB E p6 17 ((ssF y fk fn ta ta hd f sz).2.2.2.2.2.2.2.2.1), aB E xt 800 ta, aB E xz 16 ((ssF y fk fn ta ta hd f sz).2.2.2.2.2.2.2.2.2.1), aB E xm 16 ((ssF y fk fn ta ta hd f sz).2.2.2.2.2.2.2.2.2.2)]) := by
  refine MC.of (cc := cS_sumSealed) (nL := 5) (ret := none) (by decide) rfl cT_in (Nat.le_of_ble_eq_true rfl) (fun g hg hR => ?_)
  show J E 5 g [ob h 3 [.ref xt, .int (nI tn), .ref xo, .int (nI on), .ref xk, .ref xn, .ref xb, .ref xz, .ref xm, .ref xs, .ref xp, .ref xd], ob xs 0 [.ref c1, .ref c2], aI E c1 16 y.1, aI E c2 16 y.2.1, aB E xk 32 fk, aB E xn 12 fn, aB E xb 64 y.2.2.1, ob xp 1 [.ref p1, .ref p2, .ref p3, .ref p4, .ref p5, .ref p6], aL E p1 5 y.2.2.2.1, aL E p2 5 y.2.2.2.2.1, aL E p3 5 y.2.2.2.2.2.1, aL E p4 4 y.2.2.2.2.2.2.1, aI E p5 4 y.2.2.2.2.2.2.2.1, aB E p6 17 y.2.2.2.2.2.2.2.2.1, aB E xt 800 ta, aB E xz 16 y.2.2.2.2.2.2.2.2.2.1, aB E xm 16 y.2.2.2.2.2.2.2.2.2.2] [(0, .ref h), (1, .int (nI hd)), (2, .ref xt), (3, .int (nI f)), (4, .int (nI sz))] 0 0 0 []
  refine j_aload_n hg 0 dS_sumSealed_0 rfl rfl ?_
  refine j_get hg (C := RX3) (T := TX3) (N := 12) inX3 0 rfl rfl 9 (by decide) m92 rfl dS_sumSealed_1 ?_
  refine j_aload_n hg 0 dS_sumSealed_4 rfl rfl ?_
  refine j_get hg (C := RX3) (T := TX3) (N := 12) inX3 0 rfl rfl 6 (by decide) m89 rfl dS_sumSealed_5 ?_
  refine j_aload_n hg 0 dS_sumSealed_8 rfl rfl ?_
  refine j_get hg (C := RX3) (T := TX3) (N := 12) inX3 0 rfl rfl 4 (by decide) m87 rfl dS_sumSealed_9 ?_
  refine j_aload_n hg 0 dS_sumSealed_12 rfl rfl ?_
  refine j_get hg (C := RX3) (T := TX3) (N := 12) inX3 0 rfl rfl 5 (by decide) m88 rfl dS_sumSealed_13 ?_
  refine j_iconst hg (v := 0) dS_sumSealed_16 (by decide) ?_
  refine j_callV hg (n := 4) (y := yC_fill) (rm := rm_C_fill) (Ws := (cT yC_fill cC_fill 6 none)) (As := [.ref xb, .ref xk, .ref xn, .int 0]) (rest := []) (wr := [ob h 3 [.ref xt, .int (nI tn), .ref xo, .int (nI on), .ref xk, .ref xn, .ref xb, .ref xz, .ref xm, .ref xs, .ref xp, .ref xd], ob xp 1 [.ref p1, .ref p2, .ref p3, .ref p4, .ref p5, .ref p6], aL E p1 5 y.2.2.2.1, aL E p2 5 y.2.2.2.2.1, aL E p3 5 y.2.2.2.2.2.1, aL E p4 4 y.2.2.2.2.2.2.1, aI E p5 4 y.2.2.2.2.2.2.2.1, aB E p6 17 y.2.2.2.2.2.2.2.2.1, aB E xt 800 ta, aB E xz 16 y.2.2.2.2.2.2.2.2.2.1, aB E xm 16 y.2.2.2.2.2.2.2.2.2.2]) 0 rfl rfl (c_C_fill l E xs c1 c2 xk xn xb 64 y.2.2.1 y.1 y.2.1 fk fn 0 (by omega) (by omega)) (gdV m154 m155 m156 m2 m157) rfl (by decide +kernel) ⟨by decide, by decide⟩ rfl rfl (Nat.le_of_ble_eq_true rfl) ⟨by decide, by decide⟩ [1, 2, 3, 4, 5, 6] [0, 7, 8, 9, 10, 11, 12, 13, 14, 15, 16] rfl rfl (by decide) (by decide) (by decide) dS_sumSealed_17 (fun _ _ => ?_)
  show J E 5 g [ob h 3 [.ref xt, .int (nI tn), .ref xo, .int (nI on), .ref xk, .ref xn, .ref xb, .ref xz, .ref xm, .ref xs, .ref xp, .ref xd], ob xp 1 [.ref p1, .ref p2, .ref p3, .ref p4, .ref p5, .ref p6], aL E p1 5 y.2.2.2.1, aL E p2 5 y.2.2.2.2.1, aL E p3 5 y.2.2.2.2.2.1, aL E p4 4 y.2.2.2.2.2.2.1, aI E p5 4 y.2.2.2.2.2.2.2.1, aB E p6 17 y.2.2.2.2.2.2.2.2.1, aB E xt 800 ta, aB E xz 16 y.2.2.2.2.2.2.2.2.2.1, aB E xm 16 y.2.2.2.2.2.2.2.2.2.2, ob xs 0 [.ref c1, .ref c2], aI E c1 16 (layF y.1 fk fn 0), aI E c2 16 (mixF y.1 y.2.1 fk fn 0), aB E xk 32 fk, aB E xn 12 fn, aB E xb 64 (fillF y.2.2.1 y.1 y.2.1 fk fn 0)] [(0, .ref h), (1, .int (nI hd)), (2, .ref xt), (3, .int (nI f)), (4, .int (nI sz))] 0 0 20 []
  refine j_sub [0, 11, 12, 13, 14, 15, 16, 1, 2, 3, 4, 5, 6, 7, 8, 9, 10] (ws' := [ob h 3 [.ref xt, .int (nI tn), .ref xo, .int (nI on), .ref xk, .ref xn, .ref xb, .ref xz, .ref xm, .ref xs, .ref xp, .ref xd], ob xs 0 [.ref c1, .ref c2], aI E c1 16 (layF y.1 fk fn 0), aI E c2 16 (mixF y.1 y.2.1 fk fn 0), aB E xk 32 fk, aB E xn 12 fn, aB E xb 64 (fillF y.2.2.1 y.1 y.2.1 fk fn 0), ob xp 1 [.ref p1, .ref p2, .ref p3, .ref p4, .ref p5, .ref p6], aL E p1 5 y.2.2.2.1, aL E p2 5 y.2.2.2.2.1, aL E p3 5 y.2.2.2.2.2.1, aL E p4 4 y.2.2.2.2.2.2.1, aI E p5 4 y.2.2.2.2.2.2.2.1, aB E p6 17 y.2.2.2.2.2.2.2.2.1, aB E xt 800 ta, aB E xz 16 y.2.2.2.2.2.2.2.2.2.1, aB E xm 16 y.2.2.2.2.2.2.2.2.2.2]) rfl (by decide) ?_
  show J E 5 g [ob h 3 [.ref xt, .int (nI tn), .ref xo, .int (nI on), .ref xk, .ref xn, .ref xb, .ref xz, .ref xm, .ref xs, .ref xp, .ref xd], ob xs 0 [.ref c1, .ref c2], aI E c1 16 (layF y.1 fk fn 0), aI E c2 16 (mixF y.1 y.2.1 fk fn 0), aB E xk 32 fk, aB E xn 12 fn, aB E xb 64 (ssB y fk fn), ob xp 1 [.ref p1, .ref p2, .ref p3, .ref p4, .ref p5, .ref p6], aL E p1 5 y.2.2.2.1, aL E p2 5 y.2.2.2.2.1, aL E p3 5 y.2.2.2.2.2.1, aL E p4 4 y.2.2.2.2.2.2.1, aI E p5 4 y.2.2.2.2.2.2.2.1, aB E p6 17 y.2.2.2.2.2.2.2.2.1, aB E xt 800 ta, aB E xz 16 y.2.2.2.2.2.2.2.2.2.1, aB E xm 16 y.2.2.2.2.2.2.2.2.2.2] [(0, .ref h), (1, .int (nI hd)), (2, .ref xt), (3, .int (nI f)), (4, .int (nI sz))] 0 0 20 []
  refine j_aload_n hg 0 dS_sumSealed_20 rfl rfl ?_
  refine j_get hg (C := RX3) (T := TX3) (N := 12) inX3 0 rfl rfl 10 (by decide) m93 rfl dS_sumSealed_21 ?_
  refine j_aload_n hg 0 dS_sumSealed_24 rfl rfl ?_
  refine j_get hg (C := RX3) (T := TX3) (N := 12) inX3 0 rfl rfl 6 (by decide) m89 rfl dS_sumSealed_25 ?_
  refine j_callV hg (n := 1) (y := yP_start) (rm := rm_P_start) (Ws := (cT yP_start cP_start 3 none)) (As := [.ref xb]) (rest := []) (wr := [ob h 3 [.ref xt, .int (nI tn), .ref xo, .int (nI on), .ref xk, .ref xn, .ref xb, .ref xz, .ref xm, .ref xs, .ref xp, .ref xd], ob xs 0 [.ref c1, .ref c2], aI E c1 16 (layF y.1 fk fn 0), aI E c2 16 (mixF y.1 y.2.1 fk fn 0), aB E xk 32 fk, aB E xn 12 fn, aL E p3 5 y.2.2.2.2.2.1, aL E p4 4 y.2.2.2.2.2.2.1, aB E xt 800 ta, aB E xz 16 y.2.2.2.2.2.2.2.2.2.1, aB E xm 16 y.2.2.2.2.2.2.2.2.2.2]) 0 rfl rfl (c_P_start l E xp p1 p2 p3 p4 p5 p6 xb 64 y.2.2.2.1 y.2.2.2.2.1 y.2.2.2.2.2.2.2.1 y.2.2.2.2.2.2.2.2.1 (ssB y fk fn) hsb.fillF (by omega) (by omega)) (gdV m192 m193 m194 m3 m195) rfl (by decide +kernel) ⟨by decide, by decide⟩ rfl rfl (Nat.le_of_ble_eq_true rfl) ⟨by decide, by decide⟩ [7, 8, 9, 12, 13, 6] [0, 1, 2, 3, 4, 5, 10, 11, 14, 15, 16] rfl rfl (by decide) (by decide) (by decide) dS_sumSealed_28 (fun _ _ => ?_)
  show J E 5 g [ob h 3 [.ref xt, .int (nI tn), .ref xo, .int (nI on), .ref xk, .ref xn, .ref xb, .ref xz, .ref xm, .ref xs, .ref xp, .ref xd], ob xs 0 [.ref c1, .ref c2], aI E c1 16 (layF y.1 fk fn 0), aI E c2 16 (mixF y.1 y.2.1 fk fn 0), aB E xk 32 fk, aB E xn 12 fn, aL E p3 5 y.2.2.2.2.2.1, aL E p4 4 y.2.2.2.2.2.2.1, aB E xt 800 ta, aB E xz 16 y.2.2.2.2.2.2.2.2.2.1, aB E xm 16 y.2.2.2.2.2.2.2.2.2.2, ob xp 1 [.ref p1, .ref p2, .ref p3, .ref p4, .ref p5, .ref p6], aL E p1 5 (parts5 (kblk y.2.2.2.2.2.2.2.2.1 (ssB y fk fn)) y.2.2.2.1 5), aL E p2 5 (zeros5 y.2.2.2.2.1 5), aI E p5 4 (last4 (ssB y fk fn) y.2.2.2.2.2.2.2.1 4), aB E p6 17 (kblk y.2.2.2.2.2.2.2.2.1 (ssB y fk fn)), aB E xb 64 (ssB y fk fn)] [(0, .ref h), (1, .int (nI hd)), (2, .ref xt), (3, .int (nI f)), (4, .int (nI sz))] 0 0 31 []
  refine j_sub [0, 1, 2, 3, 4, 5, 16, 11, 12, 13, 6, 7, 14, 15, 8, 9, 10] (ws' := [ob h 3 [.ref xt, .int (nI tn), .ref xo, .int (nI on), .ref xk, .ref xn, .ref xb, .ref xz, .ref xm, .ref xs, .ref xp, .ref xd], ob xs 0 [.ref c1, .ref c2], aI E c1 16 (layF y.1 fk fn 0), aI E c2 16 (mixF y.1 y.2.1 fk fn 0), aB E xk 32 fk, aB E xn 12 fn, aB E xb 64 (ssB y fk fn), ob xp 1 [.ref p1, .ref p2, .ref p3, .ref p4, .ref p5, .ref p6], aL E p1 5 (parts5 (kblk y.2.2.2.2.2.2.2.2.1 (ssB y fk fn)) y.2.2.2.1 5), aL E p2 5 (zeros5 y.2.2.2.2.1 5), aL E p3 5 y.2.2.2.2.2.1, aL E p4 4 y.2.2.2.2.2.2.1, aI E p5 4 (last4 (ssB y fk fn) y.2.2.2.2.2.2.2.1 4), aB E p6 17 (kblk y.2.2.2.2.2.2.2.2.1 (ssB y fk fn)), aB E xt 800 ta, aB E xz 16 y.2.2.2.2.2.2.2.2.2.1, aB E xm 16 y.2.2.2.2.2.2.2.2.2.2]) rfl (by decide) ?_
  show J E 5 g [ob h 3 [.ref xt, .int (nI tn), .ref xo, .int (nI on), .ref xk, .ref xn, .ref xb, .ref xz, .ref xm, .ref xs, .ref xp, .ref xd], ob xs 0 [.ref c1, .ref c2], aI E c1 16 (layF y.1 fk fn 0), aI E c2 16 (mixF y.1 y.2.1 fk fn 0), aB E xk 32 fk, aB E xn 12 fn, aB E xb 64 (ssB y fk fn), ob xp 1 [.ref p1, .ref p2, .ref p3, .ref p4, .ref p5, .ref p6], aL E p1 5 (ssR y fk fn), aL E p2 5 ((ps0 y.2.2.2.2.1 y.2.2.2.2.2.1 y.2.2.2.2.2.2.2.2.1 (ssB y fk fn)).1), aL E p3 5 ((ps0 y.2.2.2.2.1 y.2.2.2.2.2.1 y.2.2.2.2.2.2.2.2.1 (ssB y fk fn)).2.1), aL E p4 4 y.2.2.2.2.2.2.1, aI E p5 4 (last4 (ssB y fk fn) y.2.2.2.2.2.2.2.1 4), aB E p6 17 ((ps0 y.2.2.2.2.1 y.2.2.2.2.2.1 y.2.2.2.2.2.2.2.2.1 (ssB y fk fn)).2.2), aB E xt 800 ta, aB E xz 16 y.2.2.2.2.2.2.2.2.2.1, aB E xm 16 y.2.2.2.2.2.2.2.2.2.2] [(0, .ref h), (1, .int (nI hd)), (2, .ref xt), (3, .int (nI f)), (4, .int (nI sz))] 0 0 31 []
  refine j_aload_n hg 0 dS_sumSealed_31 rfl rfl ?_
  refine j_get hg (C := RX3) (T := TX3) (N := 12) inX3 0 rfl rfl 10 (by decide) m93 rfl dS_sumSealed_32 ?_
  refine j_aload_n hg 0 dS_sumSealed_35 rfl rfl ?_
  refine j_get hg (C := RX3) (T := TX3) (N := 12) inX3 0 rfl rfl 0 (by decide) m83 rfl dS_sumSealed_36 ?_
  refine j_iconst hg (v := 0) dS_sumSealed_39 (by decide) ?_
  refine j_iload_n hg 1 dS_sumSealed_40 rfl rfl ?_
  refine j_callV hg (n := 3) (y := yP_addPadded) (rm := rm_P_addPadded) (Ws := (cT yP_addPadded cP_addPadded 5 none)) (As := [.ref xt, .int 0, .int (nI hd)]) (rest := []) (wr := [ob h 3 [.ref xt, .int (nI tn), .ref xo, .int (nI on), .ref xk, .ref xn, .ref xb, .ref xz, .ref xm, .ref xs, .ref xp, .ref xd], ob xs 0 [.ref c1, .ref c2], aI E c1 16 (layF y.1 fk fn 0), aI E c2 16 (mixF y.1 y.2.1 fk fn 0), aB E xk 32 fk, aB E xn 12 fn, aB E xb 64 (ssB y fk fn), aL E p4 4 y.2.2.2.2.2.2.1, aI E p5 4 (last4 (ssB y fk fn) y.2.2.2.2.2.2.2.1 4), aB E xz 16 y.2.2.2.2.2.2.2.2.2.1, aB E xm 16 y.2.2.2.2.2.2.2.2.2.2]) 0 rfl rfl (c_P_addPadded l E xp p1 p2 p3 p4 p5 p6 xt 800 (ssR y fk fn) ((ps0 y.2.2.2.2.1 y.2.2.2.2.2.1 y.2.2.2.2.2.2.2.2.1 (ssB y fk fn))) ta 0 hd hta (by omega) (by omega)) (gdV m253 m254 m255 m3 m256) rfl (by decide +kernel) ⟨by decide, by decide⟩ rfl rfl (Nat.le_of_ble_eq_true rfl) ⟨by decide, by decide⟩ [7, 8, 9, 10, 13, 14] [0, 1, 2, 3, 4, 5, 6, 11, 12, 15, 16] rfl rfl (by decide) (by decide) (by decide) dS_sumSealed_41 (fun _ _ => ?_)
  show J E 5 g [ob h 3 [.ref xt, .int (nI tn), .ref xo, .int (nI on), .ref xk, .ref xn, .ref xb, .ref xz, .ref xm, .ref xs, .ref xp, .ref xd], ob xs 0 [.ref c1, .ref c2], aI E c1 16 (layF y.1 fk fn 0), aI E c2 16 (mixF y.1 y.2.1 fk fn 0), aB E xk 32 fk, aB E xn 12 fn, aB E xb 64 (ssB y fk fn), aL E p4 4 y.2.2.2.2.2.2.1, aI E p5 4 (last4 (ssB y fk fn) y.2.2.2.2.2.2.2.1 4), aB E xz 16 y.2.2.2.2.2.2.2.2.2.1, aB E xm 16 y.2.2.2.2.2.2.2.2.2.2, ob xp 1 [.ref p1, .ref p2, .ref p3, .ref p4, .ref p5, .ref p6], aL E p1 5 (ssR y fk fn), aL E p2 5 ((ppadF (ssR y fk fn) ((ps0 y.2.2.2.2.1 y.2.2.2.2.2.1 y.2.2.2.2.2.2.2.2.1 (ssB y fk fn))) ta 0 hd ((hd + 15) / 16)).1), aL E p3 5 ((ppadF (ssR y fk fn) ((ps0 y.2.2.2.2.1 y.2.2.2.2.2.1 y.2.2.2.2.2.2.2.2.1 (ssB y fk fn))) ta 0 hd ((hd + 15) / 16)).2.1), aB E p6 17 ((ppadF (ssR y fk fn) ((ps0 y.2.2.2.2.1 y.2.2.2.2.2.1 y.2.2.2.2.2.2.2.2.1 (ssB y fk fn))) ta 0 hd ((hd + 15) / 16)).2.2), aB E xt 800 ta] [(0, .ref h), (1, .int (nI hd)), (2, .ref xt), (3, .int (nI f)), (4, .int (nI sz))] 0 0 44 []
  refine j_aload_n hg 0 dS_sumSealed_44 rfl rfl ?_
  refine j_get hg (C := RX3) (T := TX3) (N := 12) inX3 0 rfl rfl 10 (by decide) m93 rfl dS_sumSealed_45 ?_
  refine j_aload_n hg 2 dS_sumSealed_48 rfl rfl ?_
  refine j_iload_n hg 3 dS_sumSealed_49 rfl rfl ?_
  refine j_iload hg 4 dS_sumSealed_50 rfl ?_
  refine j_callV hg (n := 3) (y := yP_addPadded) (rm := rm_P_addPadded) (Ws := (cT yP_addPadded cP_addPadded 5 none)) (As := [.ref xt, .int (nI f), .int (nI sz)]) (rest := []) (wr := [ob h 3 [.ref xt, .int (nI tn), .ref xo, .int (nI on), .ref xk, .ref xn, .ref xb, .ref xz, .ref xm, .ref xs, .ref xp, .ref xd], ob xs 0 [.ref c1, .ref c2], aI E c1 16 (layF y.1 fk fn 0), aI E c2 16 (mixF y.1 y.2.1 fk fn 0), aB E xk 32 fk, aB E xn 12 fn, aB E xb 64 (ssB y fk fn), aL E p4 4 y.2.2.2.2.2.2.1, aI E p5 4 (last4 (ssB y fk fn) y.2.2.2.2.2.2.2.1 4), aB E xz 16 y.2.2.2.2.2.2.2.2.2.1, aB E xm 16 y.2.2.2.2.2.2.2.2.2.2]) 0 rfl rfl (c_P_addPadded l E xp p1 p2 p3 p4 p5 p6 xt 800 (ssR y fk fn) ((ppadF (ssR y fk fn) ((ps0 y.2.2.2.2.1 y.2.2.2.2.2.1 y.2.2.2.2.2.2.2.2.1 (ssB y fk fn))) ta 0 hd ((hd + 15) / 16))) ta f sz hta (by omega) (by omega)) (gdV m253 m254 m255 m3 m256) rfl (by decide +kernel) ⟨by decide, by decide⟩ rfl rfl (Nat.le_of_ble_eq_true rfl) ⟨by decide, by decide⟩ [11, 12, 13, 14, 15, 16] [0, 1, 2, 3, 4, 5, 6, 7, 8, 9, 10] rfl rfl (by decide) (by decide) (by decide) dS_sumSealed_52 (fun _ _ => ?_)
  show J E 5 g [ob h 3 [.ref xt, .int (nI tn), .ref xo, .int (nI on), .ref xk, .ref xn, .ref xb, .ref xz, .ref xm, .ref xs, .ref xp, .ref xd], ob xs 0 [.ref c1, .ref c2], aI E c1 16 (layF y.1 fk fn 0), aI E c2 16 (mixF y.1 y.2.1 fk fn 0), aB E xk 32 fk, aB E xn 12 fn, aB E xb 64 (ssB y fk fn), aL E p4 4 y.2.2.2.2.2.2.1, aI E p5 4 (last4 (ssB y fk fn) y.2.2.2.2.2.2.2.1 4), aB E xz 16 y.2.2.2.2.2.2.2.2.2.1, aB E xm 16 y.2.2.2.2.2.2.2.2.2.2, ob xp 1 [.ref p1, .ref p2, .ref p3, .ref p4, .ref p5, .ref p6], aL E p1 5 (ssR y fk fn), aL E p2 5 ((ppadF (ssR y fk fn) ((ppadF (ssR y fk fn) ((ps0 y.2.2.2.2.1 y.2.2.2.2.2.1 y.2.2.2.2.2.2.2.2.1 (ssB y fk fn))) ta 0 hd ((hd + 15) / 16))) ta f sz ((sz + 15) / 16)).1), aL E p3 5 ((ppadF (ssR y fk fn) ((ppadF (ssR y fk fn) ((ps0 y.2.2.2.2.1 y.2.2.2.2.2.1 y.2.2.2.2.2.2.2.2.1 (ssB y fk fn))) ta 0 hd ((hd + 15) / 16))) ta f sz ((sz + 15) / 16)).2.1), aB E p6 17 ((ppadF (ssR y fk fn) ((ppadF (ssR y fk fn) ((ps0 y.2.2.2.2.1 y.2.2.2.2.2.1 y.2.2.2.2.2.2.2.2.1 (ssB y fk fn))) ta 0 hd ((hd + 15) / 16))) ta f sz ((sz + 15) / 16)).2.2), aB E xt 800 ta] [(0, .ref h), (1, .int (nI hd)), (2, .ref xt), (3, .int (nI f)), (4, .int (nI sz))] 0 0 55 []
  refine j_aload_n hg 0 dS_sumSealed_55 rfl rfl ?_
  refine j_get hg (C := RX3) (T := TX3) (N := 12) inX3 0 rfl rfl 7 (by decide) m90 rfl dS_sumSealed_56 ?_
  refine j_iconst hg (v := 0) dS_sumSealed_59 (by decide) ?_
  refine j_iload_n hg 1 dS_sumSealed_60 rfl rfl ?_
  refine j_callS hg (n := 3) (y := yS_writeLowestFirst) (rm := rm_S_writeLowestFirst) (Ws := (cT yS_writeLowestFirst cS_writeLowestFirst 3 none)) (As := [.ref xz, .int 0, .int (nI hd)]) (rest := []) (wr := [ob h 3 [.ref xt, .int (nI tn), .ref xo, .int (nI on), .ref xk, .ref xn, .ref xb, .ref xz, .ref xm, .ref xs, .ref xp, .ref xd], ob xs 0 [.ref c1, .ref c2], aI E c1 16 (layF y.1 fk fn 0), aI E c2 16 (mixF y.1 y.2.1 fk fn 0), aB E xk 32 fk, aB E xn 12 fn, aB E xb 64 (ssB y fk fn), aL E p4 4 y.2.2.2.2.2.2.1, aI E p5 4 (last4 (ssB y fk fn) y.2.2.2.2.2.2.2.1 4), aB E xm 16 y.2.2.2.2.2.2.2.2.2.2, ob xp 1 [.ref p1, .ref p2, .ref p3, .ref p4, .ref p5, .ref p6], aL E p1 5 (ssR y fk fn), aL E p2 5 ((ppadF (ssR y fk fn) ((ppadF (ssR y fk fn) ((ps0 y.2.2.2.2.1 y.2.2.2.2.2.1 y.2.2.2.2.2.2.2.2.1 (ssB y fk fn))) ta 0 hd ((hd + 15) / 16))) ta f sz ((sz + 15) / 16)).1), aL E p3 5 ((ppadF (ssR y fk fn) ((ppadF (ssR y fk fn) ((ps0 y.2.2.2.2.1 y.2.2.2.2.2.1 y.2.2.2.2.2.2.2.2.1 (ssB y fk fn))) ta 0 hd ((hd + 15) / 16))) ta f sz ((sz + 15) / 16)).2.1), aB E p6 17 ((ppadF (ssR y fk fn) ((ppadF (ssR y fk fn) ((ps0 y.2.2.2.2.1 y.2.2.2.2.2.1 y.2.2.2.2.2.2.2.2.1 (ssB y fk fn))) ta 0 hd ((hd + 15) / 16))) ta f sz ((sz + 15) / 16)).2.2), aB E xt 800 ta]) (c_S_writeLowestFirst l E xz 16 y.2.2.2.2.2.2.2.2.2.1 0 (nI hd) (by omega) (by omega)) (gdS m257 m186 m1 m187) rfl (by decide +kernel) ⟨by decide, by decide⟩ rfl rfl (Nat.le_of_ble_eq_true rfl) ⟨by decide, by decide⟩ [9] [0, 1, 2, 3, 4, 5, 6, 7, 8, 10, 11, 12, 13, 14, 15, 16] rfl rfl (by decide) (by decide) (by decide) dS_sumSealed_61 (fun _ _ => ?_)
  show J E 5 g [ob h 3 [.ref xt, .int (nI tn), .ref xo, .int (nI on), .ref xk, .ref xn, .ref xb, .ref xz, .ref xm, .ref xs, .ref xp, .ref xd], ob xs 0 [.ref c1, .ref c2], aI E c1 16 (layF y.1 fk fn 0), aI E c2 16 (mixF y.1 y.2.1 fk fn 0), aB E xk 32 fk, aB E xn 12 fn, aB E xb 64 (ssB y fk fn), aL E p4 4 y.2.2.2.2.2.2.1, aI E p5 4 (last4 (ssB y fk fn) y.2.2.2.2.2.2.2.1 4), aB E xm 16 y.2.2.2.2.2.2.2.2.2.2, ob xp 1 [.ref p1, .ref p2, .ref p3, .ref p4, .ref p5, .ref p6], aL E p1 5 (ssR y fk fn), aL E p2 5 ((ppadF (ssR y fk fn) ((ppadF (ssR y fk fn) ((ps0 y.2.2.2.2.1 y.2.2.2.2.2.1 y.2.2.2.2.2.2.2.2.1 (ssB y fk fn))) ta 0 hd ((hd + 15) / 16))) ta f sz ((sz + 15) / 16)).1), aL E p3 5 ((ppadF (ssR y fk fn) ((ppadF (ssR y fk fn) ((ps0 y.2.2.2.2.1 y.2.2.2.2.2.1 y.2.2.2.2.2.2.2.2.1 (ssB y fk fn))) ta 0 hd ((hd + 15) / 16))) ta f sz ((sz + 15) / 16)).2.1), aB E p6 17 ((ppadF (ssR y fk fn) ((ppadF (ssR y fk fn) ((ps0 y.2.2.2.2.1 y.2.2.2.2.2.1 y.2.2.2.2.2.2.2.2.1 (ssB y fk fn))) ta 0 hd ((hd + 15) / 16))) ta f sz ((sz + 15) / 16)).2.2), aB E xt 800 ta, aB E xz 16 (wl y.2.2.2.2.2.2.2.2.2.1 0 (nI hd))] [(0, .ref h), (1, .int (nI hd)), (2, .ref xt), (3, .int (nI f)), (4, .int (nI sz))] 0 0 64 []
  refine j_aload_n hg 0 dS_sumSealed_64 rfl rfl ?_
  refine j_get hg (C := RX3) (T := TX3) (N := 12) inX3 0 rfl rfl 7 (by decide) m90 rfl dS_sumSealed_65 ?_
  refine j_bipush hg (v := 8) dS_sumSealed_68 (by decide) ?_
  refine j_iload hg 4 dS_sumSealed_70 rfl ?_
  refine j_callS hg (n := 3) (y := yS_writeLowestFirst) (rm := rm_S_writeLowestFirst) (Ws := (cT yS_writeLowestFirst cS_writeLowestFirst 3 none)) (As := [.ref xz, .int 8, .int (nI sz)]) (rest := []) (wr := [ob h 3 [.ref xt, .int (nI tn), .ref xo, .int (nI on), .ref xk, .ref xn, .ref xb, .ref xz, .ref xm, .ref xs, .ref xp, .ref xd], ob xs 0 [.ref c1, .ref c2], aI E c1 16 (layF y.1 fk fn 0), aI E c2 16 (mixF y.1 y.2.1 fk fn 0), aB E xk 32 fk, aB E xn 12 fn, aB E xb 64 (ssB y fk fn), aL E p4 4 y.2.2.2.2.2.2.1, aI E p5 4 (last4 (ssB y fk fn) y.2.2.2.2.2.2.2.1 4), aB E xm 16 y.2.2.2.2.2.2.2.2.2.2, ob xp 1 [.ref p1, .ref p2, .ref p3, .ref p4, .ref p5, .ref p6], aL E p1 5 (ssR y fk fn), aL E p2 5 ((ppadF (ssR y fk fn) ((ppadF (ssR y fk fn) ((ps0 y.2.2.2.2.1 y.2.2.2.2.2.1 y.2.2.2.2.2.2.2.2.1 (ssB y fk fn))) ta 0 hd ((hd + 15) / 16))) ta f sz ((sz + 15) / 16)).1), aL E p3 5 ((ppadF (ssR y fk fn) ((ppadF (ssR y fk fn) ((ps0 y.2.2.2.2.1 y.2.2.2.2.2.1 y.2.2.2.2.2.2.2.2.1 (ssB y fk fn))) ta 0 hd ((hd + 15) / 16))) ta f sz ((sz + 15) / 16)).2.1), aB E p6 17 ((ppadF (ssR y fk fn) ((ppadF (ssR y fk fn) ((ps0 y.2.2.2.2.1 y.2.2.2.2.2.1 y.2.2.2.2.2.2.2.2.1 (ssB y fk fn))) ta 0 hd ((hd + 15) / 16))) ta f sz ((sz + 15) / 16)).2.2), aB E xt 800 ta]) (c_S_writeLowestFirst l E xz 16 (wl y.2.2.2.2.2.2.2.2.2.1 0 (nI hd)) 8 (nI sz) (by omega) (by omega)) (gdS m257 m186 m1 m187) rfl (by decide +kernel) ⟨by decide, by decide⟩ rfl rfl (Nat.le_of_ble_eq_true rfl) ⟨by decide, by decide⟩ [16] [0, 1, 2, 3, 4, 5, 6, 7, 8, 9, 10, 11, 12, 13, 14, 15] rfl rfl (by decide) (by decide) (by decide) dS_sumSealed_72 (fun _ _ => ?_)
  show J E 5 g [ob h 3 [.ref xt, .int (nI tn), .ref xo, .int (nI on), .ref xk, .ref xn, .ref xb, .ref xz, .ref xm, .ref xs, .ref xp, .ref xd], ob xs 0 [.ref c1, .ref c2], aI E c1 16 (layF y.1 fk fn 0), aI E c2 16 (mixF y.1 y.2.1 fk fn 0), aB E xk 32 fk, aB E xn 12 fn, aB E xb 64 (ssB y fk fn), aL E p4 4 y.2.2.2.2.2.2.1, aI E p5 4 (last4 (ssB y fk fn) y.2.2.2.2.2.2.2.1 4), aB E xm 16 y.2.2.2.2.2.2.2.2.2.2, ob xp 1 [.ref p1, .ref p2, .ref p3, .ref p4, .ref p5, .ref p6], aL E p1 5 (ssR y fk fn), aL E p2 5 ((ppadF (ssR y fk fn) ((ppadF (ssR y fk fn) ((ps0 y.2.2.2.2.1 y.2.2.2.2.2.1 y.2.2.2.2.2.2.2.2.1 (ssB y fk fn))) ta 0 hd ((hd + 15) / 16))) ta f sz ((sz + 15) / 16)).1), aL E p3 5 ((ppadF (ssR y fk fn) ((ppadF (ssR y fk fn) ((ps0 y.2.2.2.2.1 y.2.2.2.2.2.1 y.2.2.2.2.2.2.2.2.1 (ssB y fk fn))) ta 0 hd ((hd + 15) / 16))) ta f sz ((sz + 15) / 16)).2.1), aB E p6 17 ((ppadF (ssR y fk fn) ((ppadF (ssR y fk fn) ((ps0 y.2.2.2.2.1 y.2.2.2.2.2.1 y.2.2.2.2.2.2.2.2.1 (ssB y fk fn))) ta 0 hd ((hd + 15) / 16))) ta f sz ((sz + 15) / 16)).2.2), aB E xt 800 ta, aB E xz 16 (wl (wl y.2.2.2.2.2.2.2.2.2.1 0 (nI hd)) 8 (nI sz))] [(0, .ref h), (1, .int (nI hd)), (2, .ref xt), (3, .int (nI f)), (4, .int (nI sz))] 0 0 75 []
  refine j_aload_n hg 0 dS_sumSealed_75 rfl rfl ?_
  refine j_get hg (C := RX3) (T := TX3) (N := 12) inX3 0 rfl rfl 10 (by decide) m93 rfl dS_sumSealed_76 ?_
  refine j_aload_n hg 0 dS_sumSealed_79 rfl rfl ?_
  refine j_get hg (C := RX3) (T := TX3) (N := 12) inX3 0 rfl rfl 7 (by decide) m90 rfl dS_sumSealed_80 ?_
  refine j_iconst hg (v := 0) dS_sumSealed_83 (by decide) ?_
  refine j_bipush hg (v := 16) dS_sumSealed_84 (by decide) ?_
  refine j_callV hg (n := 3) (y := yP_add) (rm := rm_P_add) (Ws := (cT yP_add cP_add 6 none)) (As := [.ref xz, .int 0, .int 16]) (rest := []) (wr := [ob h 3 [.ref xt, .int (nI tn), .ref xo, .int (nI on), .ref xk, .ref xn, .ref xb, .ref xz, .ref xm, .ref xs, .ref xp, .ref xd], ob xs 0 [.ref c1, .ref c2], aI E c1 16 (layF y.1 fk fn 0), aI E c2 16 (mixF y.1 y.2.1 fk fn 0), aB E xk 32 fk, aB E xn 12 fn, aB E xb 64 (ssB y fk fn), aL E p4 4 y.2.2.2.2.2.2.1, aI E p5 4 (last4 (ssB y fk fn) y.2.2.2.2.2.2.2.1 4), aB E xm 16 y.2.2.2.2.2.2.2.2.2.2, aB E xt 800 ta]) 0 rfl rfl (c_P_add l E xp p1 p2 p3 p4 p5 p6 xz 16 (ssR y fk fn) ((ppadF (ssR y fk fn) ((ppadF (ssR y fk fn) ((ps0 y.2.2.2.2.1 y.2.2.2.2.2.1 y.2.2.2.2.2.2.2.2.1 (ssB y fk fn))) ta 0 hd ((hd + 15) / 16))) ta f sz ((sz + 15) / 16))) (wl (wl y.2.2.2.2.2.2.2.2.2.1 0 (nI hd)) 8 (nI sz)) 0 16 hz.wl.wl (by omega) (by omega)) (gdV m208 m209 m210 m3 m211) rfl (by decide +kernel) ⟨by decide, by decide⟩ rfl rfl (Nat.le_of_ble_eq_true rfl) ⟨by decide, by decide⟩ [10, 11, 12, 13, 14, 16] [0, 1, 2, 3, 4, 5, 6, 7, 8, 9, 15] rfl rfl (by decide) (by decide) (by decide) dS_sumSealed_86 (fun _ _ => ?_)
  show J E 5 g [ob h 3 [.ref xt, .int (nI tn), .ref xo, .int (nI on), .ref xk, .ref xn, .ref xb, .ref xz, .ref xm, .ref xs, .ref xp, .ref xd], ob xs 0 [.ref c1, .ref c2], aI E c1 16 (layF y.1 fk fn 0), aI E c2 16 (mixF y.1 y.2.1 fk fn 0), aB E xk 32 fk, aB E xn 12 fn, aB E xb 64 (ssB y fk fn), aL E p4 4 y.2.2.2.2.2.2.1, aI E p5 4 (last4 (ssB y fk fn) y.2.2.2.2.2.2.2.1 4), aB E xm 16 y.2.2.2.2.2.2.2.2.2.2, aB E xt 800 ta, ob xp 1 [.ref p1, .ref p2, .ref p3, .ref p4, .ref p5, .ref p6], aL E p1 5 (ssR y fk fn), aL E p2 5 ((paddF (ssR y fk fn) ((ppadF (ssR y fk fn) ((ppadF (ssR y fk fn) ((ps0 y.2.2.2.2.1 y.2.2.2.2.2.1 y.2.2.2.2.2.2.2.2.1 (ssB y fk fn))) ta 0 hd ((hd + 15) / 16))) ta f sz ((sz + 15) / 16))) (wl (wl y.2.2.2.2.2.2.2.2.2.1 0 (nI hd)) 8 (nI sz)) 0 16 ((16 + 15) / 16)).1), aL E p3 5 ((paddF (ssR y fk fn) ((ppadF (ssR y fk fn) ((ppadF (ssR y fk fn) ((ps0 y.2.2.2.2.1 y.2.2.2.2.2.1 y.2.2.2.2.2.2.2.2.1 (ssB y fk fn))) ta 0 hd ((hd + 15) / 16))) ta f sz ((sz + 15) / 16))) (wl (wl y.2.2.2.2.2.2.2.2.2.1 0 (nI hd)) 8 (nI sz)) 0 16 ((16 + 15) / 16)).2.1), aB E p6 17 ((paddF (ssR y fk fn) ((ppadF (ssR y fk fn) ((ppadF (ssR y fk fn) ((ps0 y.2.2.2.2.1 y.2.2.2.2.2.1 y.2.2.2.2.2.2.2.2.1 (ssB y fk fn))) ta 0 hd ((hd + 15) / 16))) ta f sz ((sz + 15) / 16))) (wl (wl y.2.2.2.2.2.2.2.2.2.1 0 (nI hd)) 8 (nI sz)) 0 16 ((16 + 15) / 16)).2.2), aB E xz 16 (wl (wl y.2.2.2.2.2.2.2.2.2.1 0 (nI hd)) 8 (nI sz))] [(0, .ref h), (1, .int (nI hd)), (2, .ref xt), (3, .int (nI f)), (4, .int (nI sz))] 0 0 89 []
  refine j_sub [0, 1, 2, 3, 4, 5, 6, 11, 12, 13, 14, 7, 8, 15, 10, 16, 9] (ws' := [ob h 3 [.ref xt, .int (nI tn), .ref xo, .int (nI on), .ref xk, .ref xn, .ref xb, .ref xz, .ref xm, .ref xs, .ref xp, .ref xd], ob xs 0 [.ref c1, .ref c2], aI E c1 16 (layF y.1 fk fn 0), aI E c2 16 (mixF y.1 y.2.1 fk fn 0), aB E xk 32 fk, aB E xn 12 fn, aB E xb 64 (ssB y fk fn), ob xp 1 [.ref p1, .ref p2, .ref p3, .ref p4, .ref p5, .ref p6], aL E p1 5 (ssR y fk fn), aL E p2 5 ((paddF (ssR y fk fn) ((ppadF (ssR y fk fn) ((ppadF (ssR y fk fn) ((ps0 y.2.2.2.2.1 y.2.2.2.2.2.1 y.2.2.2.2.2.2.2.2.1 (ssB y fk fn))) ta 0 hd ((hd + 15) / 16))) ta f sz ((sz + 15) / 16))) (wl (wl y.2.2.2.2.2.2.2.2.2.1 0 (nI hd)) 8 (nI sz)) 0 16 ((16 + 15) / 16)).1), aL E p3 5 ((paddF (ssR y fk fn) ((ppadF (ssR y fk fn) ((ppadF (ssR y fk fn) ((ps0 y.2.2.2.2.1 y.2.2.2.2.2.1 y.2.2.2.2.2.2.2.2.1 (ssB y fk fn))) ta 0 hd ((hd + 15) / 16))) ta f sz ((sz + 15) / 16))) (wl (wl y.2.2.2.2.2.2.2.2.2.1 0 (nI hd)) 8 (nI sz)) 0 16 ((16 + 15) / 16)).2.1), aL E p4 4 y.2.2.2.2.2.2.1, aI E p5 4 (last4 (ssB y fk fn) y.2.2.2.2.2.2.2.1 4), aB E p6 17 ((paddF (ssR y fk fn) ((ppadF (ssR y fk fn) ((ppadF (ssR y fk fn) ((ps0 y.2.2.2.2.1 y.2.2.2.2.2.1 y.2.2.2.2.2.2.2.2.1 (ssB y fk fn))) ta 0 hd ((hd + 15) / 16))) ta f sz ((sz + 15) / 16))) (wl (wl y.2.2.2.2.2.2.2.2.2.1 0 (nI hd)) 8 (nI sz)) 0 16 ((16 + 15) / 16)).2.2), aB E xt 800 ta, aB E xz 16 (wl (wl y.2.2.2.2.2.2.2.2.2.1 0 (nI hd)) 8 (nI sz)), aB E xm 16 y.2.2.2.2.2.2.2.2.2.2]) rfl (by decide) ?_
  show J E 5 g [ob h 3 [.ref xt, .int (nI tn), .ref xo, .int (nI on), .ref xk, .ref xn, .ref xb, .ref xz, .ref xm, .ref xs, .ref xp, .ref xd], ob xs 0 [.ref c1, .ref c2], aI E c1 16 (layF y.1 fk fn 0), aI E c2 16 (mixF y.1 y.2.1 fk fn 0), aB E xk 32 fk, aB E xn 12 fn, aB E xb 64 (ssB y fk fn), ob xp 1 [.ref p1, .ref p2, .ref p3, .ref p4, .ref p5, .ref p6], aL E p1 5 (ssR y fk fn), aL E p2 5 ((ssX y fk fn ta ta hd f sz).1), aL E p3 5 ((ssX y fk fn ta ta hd f sz).2.1), aL E p4 4 y.2.2.2.2.2.2.1, aI E p5 4 (last4 (ssB y fk fn) y.2.2.2.2.2.2.2.1 4), aB E p6 17 ((ssX y fk fn ta ta hd f sz).2.2), aB E xt 800 ta, aB E xz 16 (ssZ y.2.2.2.2.2.2.2.2.2.1 hd sz), aB E xm 16 y.2.2.2.2.2.2.2.2.2.2] [(0, .ref h), (1, .int (nI hd)), (2, .ref xt), (3, .int (nI f)), (4, .int (nI sz))] 0 0 89 []
  rw [ssF_eq] at hR
  refine j_aload_n hg 0 dS_sumSealed_89 rfl rfl ?_
  refine j_get hg (C := RX3) (T := TX3) (N := 12) inX3 0 rfl rfl 10 (by decide) m93 rfl dS_sumSealed_90 ?_
  refine j_aload_n hg 0 dS_sumSealed_93 rfl rfl ?_
  refine j_get hg (C := RX3) (T := TX3) (N := 12) inX3 0 rfl rfl 8 (by decide) m91 rfl dS_sumSealed_94 ?_
  refine j_iconst hg (v := 0) dS_sumSealed_97 (by decide) ?_
  refine j_callV hg (n := 2) (y := yP_finish) (rm := rm_P_finish) (Ws := (cT yP_finish cP_finish 6 none)) (As := [.ref xm, .int 0]) (rest := []) (wr := [ob h 3 [.ref xt, .int (nI tn), .ref xo, .int (nI on), .ref xk, .ref xn, .ref xb, .ref xz, .ref xm, .ref xs, .ref xp, .ref xd], ob xs 0 [.ref c1, .ref c2], aI E c1 16 (layF y.1 fk fn 0), aI E c2 16 (mixF y.1 y.2.1 fk fn 0), aB E xk 32 fk, aB E xn 12 fn, aB E xb 64 (ssB y fk fn), aL E p1 5 (ssR y fk fn), aB E p6 17 ((ssX y fk fn ta ta hd f sz).2.2), aB E xt 800 ta, aB E xz 16 (ssZ y.2.2.2.2.2.2.2.2.2.1 hd sz)]) 0 rfl rfl (c_P_finish l E xp p1 p2 p3 p4 p5 p6 xm 16 ((ssX y fk fn ta ta hd f sz).1) ((ssX y fk fn ta ta hd f sz).2.1) y.2.2.2.2.2.2.1 (last4 (ssB y fk fn) y.2.2.2.2.2.2.2.1 4) y.2.2.2.2.2.2.2.2.2.2 0 (by omega) (by omega)) (gdV m231 m232 m233 m3 m234) rfl (by decide +kernel) ⟨by decide, by decide⟩ rfl rfl (Nat.le_of_ble_eq_true rfl) ⟨by decide, by decide⟩ [7, 9, 10, 11, 12, 16] [0, 1, 2, 3, 4, 5, 6, 8, 13, 14, 15] rfl rfl (by decide) (by decide) (by decide) dS_sumSealed_98 (fun _ _ => ?_)
  show J E 5 g [ob h 3 [.ref xt, .int (nI tn), .ref xo, .int (nI on), .ref xk, .ref xn, .ref xb, .ref xz, .ref xm, .ref xs, .ref xp, .ref xd], ob xs 0 [.ref c1, .ref c2], aI E c1 16 (layF y.1 fk fn 0), aI E c2 16 (mixF y.1 y.2.1 fk fn 0), aB E xk 32 fk, aB E xn 12 fn, aB E xb 64 (ssB y fk fn), aL E p1 5 (ssR y fk fn), aB E p6 17 ((ssX y fk fn ta ta hd f sz).2.2), aB E xt 800 ta, aB E xz 16 (ssZ y.2.2.2.2.2.2.2.2.2.1 hd sz), ob xp 1 [.ref p1, .ref p2, .ref p3, .ref p4, .ref p5, .ref p6], aL E p2 5 (finT ((ssX y fk fn ta ta hd f sz).1) ((ssX y fk fn ta ta hd f sz).2.1)), aL E p3 5 (tpP (car ((ssX y fk fn ta ta hd f sz).1)) ((ssX y fk fn ta ta hd f sz).2.1) 5), aL E p4 4 (words4 (finT ((ssX y fk fn ta ta hd f sz).1) ((ssX y fk fn ta ta hd f sz).2.1)) y.2.2.2.2.2.2.1), aI E p5 4 (last4 (ssB y fk fn) y.2.2.2.2.2.2.2.1 4), aB E xm 16 ((foS (words4 (finT ((ssX y fk fn ta ta hd f sz).1) ((ssX y fk fn ta ta hd f sz).2.1)) y.2.2.2.2.2.2.1) (last4 (ssB y fk fn) y.2.2.2.2.2.2.2.1 4) y.2.2.2.2.2.2.2.2.2.2 0 4).2)] [(0, .ref h), (1, .int (nI hd)), (2, .ref xt), (3, .int (nI f)), (4, .int (nI sz))] 0 0 101 []
  exact j_vret hg hR () trivial rfl [0, 1, 2, 3, 4, 5, 6, 11, 7, 12, 13, 14, 15, 8, 9, 10, 16] rfl (by decide) (by decide) (by decide) dS_sumSealed_101

def dif (sm ta : Nat → Int32) (k : Nat) : Nat → Int32
  | 0 => 0
  | i + 1 => dif sm ta k i ||| (sm i ^^^ ta (k + i))

def rm_S_sumStandsAt : Room := { frames := 0, cells := 0, slots := 0, locals := 0 }
set_option maxHeartbeats 1000000 in
set_option maxRecDepth 100000 in
theorem c_S_sumStandsAt_y (l : Launch) (E : Ev) (h xt xo xk xn xb xz xm xs xp xd : Nat) (tn on : Nat) (ta sm : Nat → Int32) (k : Nat) (h1 : k + 16 ≤ 800) (hd : dif sm ta k 16 = 0) : MC E l yS_sumStandsAt (cT yS_sumStandsAt cS_sumStandsAt 4 (some .boolean)) rm_S_sumStandsAt [.ref h, .int (nI k)] [ob h 3 [.ref xt, .int (nI tn), .ref xo, .int (nI on), .ref xk, .ref xn, .ref xb, .ref xz, .ref xm, .ref xs, .ref xp, .ref xd], aB E xt 800 ta, aB E xm 16 sm] Unit (fun _ => True) (fun _ => some (.int 1)) (fun _ => [ob h 3 [.ref xt, .int (nI tn), .ref xo, .int (nI on), .ref xk, .ref xn, .ref xb, .ref xz, .ref xm, .ref xs, .ref xp, .ref xd], aB E xt 800 ta, aB E xm 16 sm]) := by
  refine MC.of (cc := cS_sumStandsAt) (nL := 4) (ret := (some .boolean)) (by decide) rfl cT_in (Nat.le_of_ble_eq_true rfl) (fun g hg hR => ?_)
  show J E 4 g [ob h 3 [.ref xt, .int (nI tn), .ref xo, .int (nI on), .ref xk, .ref xn, .ref xb, .ref xz, .ref xm, .ref xs, .ref xp, .ref xd], aB E xt 800 ta, aB E xm 16 sm] [(0, .ref h), (1, .int (nI k))] 0 0 0 []
  refine j_iconst hg (v := 0) dS_sumStandsAt_0 (by decide) ?_
  refine j_istore_n hg (lv' := [(2, .int 0), (0, .ref h), (1, .int (nI k))]) dS_sumStandsAt_1 rfl (by decide) rfl ?_
  refine j_iconst hg (v := 0) dS_sumStandsAt_2 (by decide) ?_
  refine j_istore_n hg (lv' := [(3, .int 0), (2, .int 0), (0, .ref h), (1, .int (nI k))]) dS_sumStandsAt_3 rfl (by decide) rfl ?_
  refine j_pick [2, 3, 1, 0] (lv' := [(0, .ref h), (1, .int (nI k)), (2, .int 0), (3, .int 0)]) rfl ?_
  have loop : ∀ (zk i : Nat), i + zk = 16 → J E 4 g [ob h 3 [.ref xt, .int (nI tn), .ref xo, .int (nI on), .ref xk, .ref xn, .ref xb, .ref xz, .ref xm, .ref xs, .ref xp, .ref xd], aB E xt 800 ta, aB E xm 16 sm] [(0, .ref h), (1, .int (nI k)), (2, .int (dif sm ta k i)), (3, .int (nI i))] 0 0 4 [] := by
    intro zk
    induction zk with
    | zero =>
      intro i  hi
      obtain rfl : 16 = i := by omega
      refine j_iload_n hg 3 dS_sumStandsAt_4 rfl rfl ?_
      refine j_bipush hg (v := 16) dS_sumStandsAt_5 (by decide) ?_
      refine j_nge_t hg (tgt := 34) 16 16 rfl rfl (by omega) (by omega) (by omega) dS_sumStandsAt_7 (by decide) ?_
      refine j_iload_n hg 2 dS_sumStandsAt_34 rfl rfl ?_
      refine j_if_ne hg (tgt := 42) dS_sumStandsAt_35 (by decide) (fun c => absurd hd c) (fun _ => ?_)
      refine j_iconst hg (v := 1) dS_sumStandsAt_38 (by decide) ?_
      refine j_goto hg (tgt := 43) dS_sumStandsAt_39 (by decide) ?_
      exact j_iret hg hR rfl () trivial rfl [0, 1, 2] rfl (by decide) (by decide) (by decide) dS_sumStandsAt_43
    | succ zk ih =>
      intro i  hi
      refine j_iload_n hg 3 dS_sumStandsAt_4 rfl rfl ?_
      refine j_bipush hg (v := 16) dS_sumStandsAt_5 (by decide) ?_
      refine j_nge_f hg (tgt := 34) i 16 rfl rfl (by omega) (by omega) (by omega) dS_sumStandsAt_7 (by decide) ?_
      refine j_iload_n hg 2 dS_sumStandsAt_10 rfl rfl ?_
      refine j_aload_n hg 0 dS_sumStandsAt_11 rfl rfl ?_
      refine j_get hg (C := RX3) (T := TX3) (N := 12) inX3 0 rfl rfl 8 (by decide) m91 rfl dS_sumStandsAt_12 ?_
      refine j_iload_n hg 3 dS_sumStandsAt_15 rfl rfl ?_
      refine j_bald hg (v := sm i) 2 i rfl rfl (by omega) (by omega) rfl dS_sumStandsAt_16 ?_
      refine j_aload_n hg 0 dS_sumStandsAt_17 rfl rfl ?_
      refine j_get hg (C := RX3) (T := TX3) (N := 12) inX3 0 rfl rfl 0 (by decide) m83 rfl dS_sumStandsAt_18 ?_
      refine j_iload_n hg 1 dS_sumStandsAt_21 rfl rfl ?_
      refine j_iload_n hg 3 dS_sumStandsAt_22 rfl rfl ?_
      refine j_iadd hg (v := nI (k + i)) dS_sumStandsAt_23 (nI_add k i) ?_
      refine j_bald hg (v := ta (k + i)) 1 (k + i) rfl rfl (by omega) (by omega) rfl dS_sumStandsAt_24 ?_
      refine j_ixor hg (v := (sm i) ^^^ (ta (k + i))) dS_sumStandsAt_25 rfl ?_
      refine j_ior hg (v := (dif sm ta k i) ||| ((sm i) ^^^ (ta (k + i)))) dS_sumStandsAt_26 rfl ?_
      refine j_istore_n hg (lv' := [(2, .int ((dif sm ta k i) ||| ((sm i) ^^^ (ta (k + i))))), (0, .ref h), (1, .int (nI k)), (3, .int (nI i))]) dS_sumStandsAt_27 rfl (by decide) rfl ?_
      refine j_iinc hg (kq := 3) (v := nI (i + 1)) (lv' := [(3, .int (nI (i + 1))), (2, .int ((dif sm ta k i) ||| ((sm i) ^^^ (ta (k + i))))), (0, .ref h), (1, .int (nI k))]) dS_sumStandsAt_28 rfl (nI_add i 1) (by decide) rfl ?_
      refine j_goto hg (tgt := 4) dS_sumStandsAt_31 (by decide) ?_
      refine j_pick [2, 3, 1, 0] (lv' := [(0, .ref h), (1, .int (nI k)), (2, .int ((dif sm ta k i) ||| ((sm i) ^^^ (ta (k + i))))), (3, .int (nI (i + 1)))]) rfl ?_
      exact ih (i + 1) (by omega)
  exact loop (16) 0 (by omega)

set_option maxHeartbeats 1000000 in
set_option maxRecDepth 100000 in
theorem c_S_sumStandsAt_n (l : Launch) (E : Ev) (h xt xo xk xn xb xz xm xs xp xd : Nat) (tn on : Nat) (ta sm : Nat → Int32) (k : Nat) (h1 : k + 16 ≤ 800) (hd : ¬ dif sm ta k 16 = 0) : MC E l yS_sumStandsAt (cT yS_sumStandsAt cS_sumStandsAt 4 (some .boolean)) rm_S_sumStandsAt [.ref h, .int (nI k)] [ob h 3 [.ref xt, .int (nI tn), .ref xo, .int (nI on), .ref xk, .ref xn, .ref xb, .ref xz, .ref xm, .ref xs, .ref xp, .ref xd], aB E xt 800 ta, aB E xm 16 sm] Unit (fun _ => True) (fun _ => some (.int 0)) (fun _ => [ob h 3 [.ref xt, .int (nI tn), .ref xo, .int (nI on), .ref xk, .ref xn, .ref xb, .ref xz, .ref xm, .ref xs, .ref xp, .ref xd], aB E xt 800 ta, aB E xm 16 sm]) := by
  refine MC.of (cc := cS_sumStandsAt) (nL := 4) (ret := (some .boolean)) (by decide) rfl cT_in (Nat.le_of_ble_eq_true rfl) (fun g hg hR => ?_)
  show J E 4 g [ob h 3 [.ref xt, .int (nI tn), .ref xo, .int (nI on), .ref xk, .ref xn, .ref xb, .ref xz, .ref xm, .ref xs, .ref xp, .ref xd], aB E xt 800 ta, aB E xm 16 sm] [(0, .ref h), (1, .int (nI k))] 0 0 0 []
  refine j_iconst hg (v := 0) dS_sumStandsAt_0 (by decide) ?_
  refine j_istore_n hg (lv' := [(2, .int 0), (0, .ref h), (1, .int (nI k))]) dS_sumStandsAt_1 rfl (by decide) rfl ?_
  refine j_iconst hg (v := 0) dS_sumStandsAt_2 (by decide) ?_
  refine j_istore_n hg (lv' := [(3, .int 0), (2, .int 0), (0, .ref h), (1, .int (nI k))]) dS_sumStandsAt_3 rfl (by decide) rfl ?_
  refine j_pick [2, 3, 1, 0] (lv' := [(0, .ref h), (1, .int (nI k)), (2, .int 0), (3, .int 0)]) rfl ?_
  have loop : ∀ (zk i : Nat), i + zk = 16 → J E 4 g [ob h 3 [.ref xt, .int (nI tn), .ref xo, .int (nI on), .ref xk, .ref xn, .ref xb, .ref xz, .ref xm, .ref xs, .ref xp, .ref xd], aB E xt 800 ta, aB E xm 16 sm] [(0, .ref h), (1, .int (nI k)), (2, .int (dif sm ta k i)), (3, .int (nI i))] 0 0 4 [] := by
    intro zk
    induction zk with
    | zero =>
      intro i  hi
      obtain rfl : 16 = i := by omega
      refine j_iload_n hg 3 dS_sumStandsAt_4 rfl rfl ?_
      refine j_bipush hg (v := 16) dS_sumStandsAt_5 (by decide) ?_
      refine j_nge_t hg (tgt := 34) 16 16 rfl rfl (by omega) (by omega) (by omega) dS_sumStandsAt_7 (by decide) ?_
      refine j_iload_n hg 2 dS_sumStandsAt_34 rfl rfl ?_
      refine j_if_ne hg (tgt := 42) dS_sumStandsAt_35 (by decide) (fun _ => ?_) (fun c => absurd c hd)
      refine j_iconst hg (v := 0) dS_sumStandsAt_42 (by decide) ?_
      exact j_iret hg hR rfl () trivial rfl [0, 1, 2] rfl (by decide) (by decide) (by decide) dS_sumStandsAt_43
    | succ zk ih =>
      intro i  hi
      refine j_iload_n hg 3 dS_sumStandsAt_4 rfl rfl ?_
      refine j_bipush hg (v := 16) dS_sumStandsAt_5 (by decide) ?_
      refine j_nge_f hg (tgt := 34) i 16 rfl rfl (by omega) (by omega) (by omega) dS_sumStandsAt_7 (by decide) ?_
      refine j_iload_n hg 2 dS_sumStandsAt_10 rfl rfl ?_
      refine j_aload_n hg 0 dS_sumStandsAt_11 rfl rfl ?_
      refine j_get hg (C := RX3) (T := TX3) (N := 12) inX3 0 rfl rfl 8 (by decide) m91 rfl dS_sumStandsAt_12 ?_
      refine j_iload_n hg 3 dS_sumStandsAt_15 rfl rfl ?_
      refine j_bald hg (v := sm i) 2 i rfl rfl (by omega) (by omega) rfl dS_sumStandsAt_16 ?_
      refine j_aload_n hg 0 dS_sumStandsAt_17 rfl rfl ?_
      refine j_get hg (C := RX3) (T := TX3) (N := 12) inX3 0 rfl rfl 0 (by decide) m83 rfl dS_sumStandsAt_18 ?_
      refine j_iload_n hg 1 dS_sumStandsAt_21 rfl rfl ?_
      refine j_iload_n hg 3 dS_sumStandsAt_22 rfl rfl ?_
      refine j_iadd hg (v := nI (k + i)) dS_sumStandsAt_23 (nI_add k i) ?_
      refine j_bald hg (v := ta (k + i)) 1 (k + i) rfl rfl (by omega) (by omega) rfl dS_sumStandsAt_24 ?_
      refine j_ixor hg (v := (sm i) ^^^ (ta (k + i))) dS_sumStandsAt_25 rfl ?_
      refine j_ior hg (v := (dif sm ta k i) ||| ((sm i) ^^^ (ta (k + i)))) dS_sumStandsAt_26 rfl ?_
      refine j_istore_n hg (lv' := [(2, .int ((dif sm ta k i) ||| ((sm i) ^^^ (ta (k + i))))), (0, .ref h), (1, .int (nI k)), (3, .int (nI i))]) dS_sumStandsAt_27 rfl (by decide) rfl ?_
      refine j_iinc hg (kq := 3) (v := nI (i + 1)) (lv' := [(3, .int (nI (i + 1))), (2, .int ((dif sm ta k i) ||| ((sm i) ^^^ (ta (k + i))))), (0, .ref h), (1, .int (nI k))]) dS_sumStandsAt_28 rfl (nI_add i 1) (by decide) rfl ?_
      refine j_goto hg (tgt := 4) dS_sumStandsAt_31 (by decide) ?_
      refine j_pick [2, 3, 1, 0] (lv' := [(0, .ref h), (1, .int (nI k)), (2, .int ((dif sm ta k i) ||| ((sm i) ^^^ (ta (k + i))))), (3, .int (nI (i + 1)))]) rfl ?_
      exact ih (i + 1) (by omega)
  exact loop (16) 0 (by omega)
end
section
/-! StreamSeal: seal, open, and the constructor. -/
def sy (x : CS) (fa t p wo : Nat → Int64) (la b siz sm : Nat → Int32) : SS := (x.2.2.1, x.2.2.2, x.2.1, fa, t, p, wo, la, b, siz, sm)
noncomputable def sealC (x : CS) (fk fn ta : Nat → Int32) (j tn : Nat) : CS := covF x fk fn ta j (tn - j) ((tn - j + 63) / 64)
noncomputable def sealS (x : CS) (fa t p wo : Nat → Int64) (la b siz sm fk fn ta : Nat → Int32) (j tn : Nat) : SS := ssF (sy (sealC x fk fn ta j tn) fa t p wo la b siz sm) fk fn ta (sealC x fk fn ta j tn).1 j 0 (tn - j)
noncomputable def openS (x : CS) (fa t p wo : Nat → Int64) (la b siz sm fk fn ta : Nat → Int32) (j tn : Nat) : SS := ssF (sy x fa t p wo la b siz sm) fk fn ta ta j j (tn - 16 - j)
noncomputable def openC (x : CS) (fa t p wo : Nat → Int64) (la b siz sm fk fn ta : Nat → Int32) (j tn : Nat) : CS := covF (x.1, (openS x fa t p wo la b siz sm fk fn ta j tn).2.2.1, (openS x fa t p wo la b siz sm fk fn ta j tn).1, (openS x fa t p wo la b siz sm fk fn ta j tn).2.1) fk fn ta j (tn - 16 - j) ((tn - 16 - j + 63) / 64)
def ro (n : Int32) (k : Nat) : Option Nat := if 0 ≤ n.toInt ∧ n.toInt + 16 ≤ k then some n.toInt.toNat else none
theorem ro_some {n : Int32} {k j : Nat} (h : ro n k = some j) : n = nI j ∧ j + 16 ≤ k := by
  unfold ro at h
  split at h
  · rename_i c
    have e := Option.some.inj h
    refine ⟨?_, by omega⟩
    apply Int32.toInt_inj.mp
    have h3 := Int32.toInt_lt n
    rw [nI_toInt (by omega)]
    omega
  · cases h
theorem ro_lt {j k : Nat} (hj : j < 2147483648) (h : ro (nI j) k = none) : k < j + 16 := by
  rcases Nat.lt_or_ge k (j + 16) with z | z
  · exact z
  · unfold ro at h
    rw [nI_toInt hj, if_pos (by omega)] at h
    cases h
theorem ro_cmp {j k : Nat} (hj : j < 2147483648) (hk : k < 1000000) (h : k < j + 16) : ¬ nI j ≤ nI k - 16 := by
  intro c
  have c := Int32.le_iff_toInt_le.mp c
  have e := pk_sub_toInt (a := k) (b := 16) (by omega) (by omega)
  have e : (nI k - 16).toInt = (k : Int) - 16 := e
  rw [nI_toInt hj, e] at c
  omega

def rm_S_seal : Room := { frames := 5, cells := 0, slots := 0, locals := 125 }
set_option maxHeartbeats 1000000 in
set_option maxRecDepth 100000 in
theorem c_S_seal_n (l : Launch) (E : Ev) (h xt xo xk xn xb xz xm xs xp xd : Nat) (tn on : Nat) (n : Int32) (hn : rn n tn = none) (ht : tn < 2147483648) : MC E l yS_seal (cT yS_seal cS_seal 3 (some .int)) rm_S_seal [.ref h, .int n] [ob h 3 [.ref xt, .int (nI tn), .ref xo, .int (nI on), .ref xk, .ref xn, .ref xb, .ref xz, .ref xm, .ref xs, .ref xp, .ref xd]] Unit (fun _ => True) (fun _ => some (.int (-1))) (fun _ => [ob h 3 [.ref xt, .int (nI tn), .ref xo, .int (nI on), .ref xk, .ref xn, .ref xb, .ref xz, .ref xm, .ref xs, .ref xp, .ref xd]]) := by
  refine MC.of (cc := cS_seal) (nL := 3) (ret := (some .int)) (by decide) rfl cT_in (Nat.le_of_ble_eq_true rfl) (fun g hg hR => ?_)
  show J E 3 g [ob h 3 [.ref xt, .int (nI tn), .ref xo, .int (nI on), .ref xk, .ref xn, .ref xb, .ref xz, .ref xm, .ref xs, .ref xp, .ref xd]] [(0, .ref h), (1, .int n)] 0 0 0 []
  refine j_aload_n hg 0 dS_seal_0 rfl rfl ?_
  refine j_iload_n hg 1 dS_seal_1 rfl rfl ?_
  refine j_callV hg (n := 1) (y := yS_tapeReaches) (rm := rm_S_tapeReaches) (Ws := (cT yS_tapeReaches cS_tapeReaches 2 (some .boolean))) (As := [.int n]) (rest := []) (wr := []) 0 rfl rfl (c_S_tapeReaches_n l E h xt xo xk xn xb xz xm xs xp xd tn on n hn (by omega)) (gdV m131 m133 ms0 m1 m134) rfl (by decide +kernel) ⟨by decide, by decide⟩ rfl rfl (Nat.le_of_ble_eq_true rfl) ⟨by decide, by decide⟩ [0] [] rfl rfl (by decide) (by decide) (by decide) dS_seal_2 (fun _ _ => ?_)
  show J E 3 g [ob h 3 [.ref xt, .int (nI tn), .ref xo, .int (nI on), .ref xk, .ref xn, .ref xb, .ref xz, .ref xm, .ref xs, .ref xp, .ref xd]] [(0, .ref h), (1, .int n)] 0 0 5 [.int 0]
  refine j_zne_f hg (tgt := 10) 0 rfl (by omega) (by omega) dS_seal_5 (by decide) ?_
  refine j_iconst hg (v := -1) dS_seal_8 (by decide) ?_
  exact j_iret hg hR rfl () trivial rfl [0] rfl (by decide) (by decide) (by decide) dS_seal_9

theorem ssF_sm {y : SS} {fk fn ta se : Nat → Int32} {hd fr sz : Nat} (h : Byt y.2.2.2.2.2.2.2.2.2.2) : Byt (ssF y fk fn ta se hd fr sz).2.2.2.2.2.2.2.2.2.2 := by
  rw [ssF_eq]
  exact Byt.foS h 4
theorem ssF_sz {y : SS} {fk fn ta se : Nat → Int32} {hd fr sz : Nat} (h : Byt y.2.2.2.2.2.2.2.2.2.1) : Byt (ssF y fk fn ta se hd fr sz).2.2.2.2.2.2.2.2.2.1 := by
  rw [ssF_eq]
  exact h.wl.wl
theorem ssF_sb {y : SS} {fk fn ta se : Nat → Int32} {hd fr sz : Nat} (h : Byt y.2.2.1) : Byt (ssF y fk fn ta se hd fr sz).2.2.1 := by
  rw [ssF_eq]
  exact h.fillF

set_option maxHeartbeats 1000000 in
set_option maxRecDepth 100000 in
theorem c_S_seal_y (l : Launch) (E : Ev) (h xt xo xk xn xb xz xm xs xp xd : Nat) (tn on : Nat) (c1 c2 p1 p2 p3 p4 p5 p6 : Nat) (x : CS) (fa t p wo : Nat → Int64) (la b siz sm fk fn ta : Nat → Int32) (j : Nat) (hsb : Byt x.2.1) (ho : Byt x.1) (hta : Byt ta) (hz : Byt siz) (hsm : Byt sm) (hj : j ≤ tn) (ht : tn ≤ 800) : MC E l yS_seal (cT yS_seal cS_seal 3 (some .int)) rm_S_seal [.ref h, .int (nI j)] [ob h 3 [.ref xt, .int (nI tn), .ref xo, .int (nI on), .ref xk, .ref xn, .ref xb, .ref xz, .ref xm, .ref xs, .ref xp, .ref xd], ob xs 0 [.ref c1, .ref c2], aI E c1 16 x.2.2.1, aI E c2 16 x.2.2.2, aB E xk 32 fk, aB E xn 12 fn, aB E xb 64 x.2.1, ob xp 1 [.ref p1, .ref p2, .ref p3, .ref p4, .ref p5, .ref p6], aL E p1 5 fa, aL E p2 5 t, aL E p3 5 p, aL E p4 4 wo, aI E p5 4 la, aB E p6 17 b, aB E xt 800 ta, aB E xo 816 x.1, aB E xz 16 siz, aB E xm 16 sm] Unit (fun _ => True) (fun _ => some (.int (nI (tn - j + 16)))) (fun _ => [ob h 3 [.ref xt, .int 0, .ref xo, .int (nI (tn - j + 16)), .ref xk, .ref xn, .ref xb, .ref xz, .ref xm, .ref xs, .ref xp, .ref xd], ob xs 0 [.ref c1, .ref c2], aI E c1 16 ((sealS x fa t p wo la b siz sm fk fn ta j tn).1), aI E c2 16 ((sealS x fa t p wo la b siz sm fk fn ta j tn).2.1), aB E xk 32 fk, aB E xn 12 fn, aB E xb 64 ((sealS x fa t p wo la b siz sm fk fn ta j tn).2.2.1), ob xp 1 [.ref p1, .ref p2, .ref p3, .ref p4, .ref p5, .ref p6], aL E p1 5 ((sealS x fa t p wo la b siz sm fk fn ta j tn).2.2.2.1), aL E p2 5 ((sealS x fa t p wo la b siz sm fk fn ta j tn).2.2.2.2.1), aL E p3 5 ((sealS x fa t p wo la b siz sm fk fn ta j tn).2.2.2.2.2.1), aL E p4 4 ((sealS x fa t p wo la b siz sm fk fn ta j tn).2.2.2.2.2.2.1), aI E p5 4 ((sealS x fa t p wo la b siz sm fk fn ta j tn).2.2.2.2.2.2.2.1), aB E p6 17 ((sealS x fa t p wo la b siz sm fk fn ta j tn).2.2.2.2.2.2.2.2.1), aB E xt 800 ta, aB E xo 816 (va_cpy ((sealS x fa t p wo la b siz sm fk fn ta j tn).2.2.2.2.2.2.2.2.2.2) (sealC x fk fn ta j tn).1 0 (tn - j) 16), aB E xz 16 ((sealS x fa t p wo la b siz sm fk fn ta j tn).2.2.2.2.2.2.2.2.2.1), aB E xm 16 ((sealS x fa t p wo la b siz sm fk fn ta j tn).2.2.2.2.2.2.2.2.2.2)]) := by
  refine MC.of (cc := cS_seal) (nL := 3) (ret := (some .int)) (by decide) rfl cT_in (Nat.le_of_ble_eq_true rfl) (fun g hg hR => ?_)
  show J E 3 g [ob h 3 [.ref xt, .int (nI tn), .ref xo, .int (nI on), .ref xk, .ref xn, .ref xb, .ref xz, .ref xm, .ref xs, .ref xp, .ref xd], ob xs 0 [.ref c1, .ref c2], aI E c1 16 x.2.2.1, aI E c2 16 x.2.2.2, aB E xk 32 fk, aB E xn 12 fn, aB E xb 64 x.2.1, ob xp 1 [.ref p1, .ref p2, .ref p3, .ref p4, .ref p5, .ref p6], aL E p1 5 fa, aL E p2 5 t, aL E p3 5 p, aL E p4 4 wo, aI E p5 4 la, aB E p6 17 b, aB E xt 800 ta, aB E xo 816 x.1, aB E xz 16 siz, aB E xm 16 sm] [(0, .ref h), (1, .int (nI j))] 0 0 0 []
  have hB1 : Byt (sealC x fk fn ta j tn).1 := (Byt.covF ho hsb _).1
  have hB2 : Byt (sealC x fk fn ta j tn).2.1 := (Byt.covF ho hsb _).2
  have hB3 : Byt ((sealS x fa t p wo la b siz sm fk fn ta j tn).2.2.2.2.2.2.2.2.2.2) := ssF_sm (y := sy (sealC x fk fn ta j tn) fa t p wo la b siz sm) hsm
  refine j_aload_n hg 0 dS_seal_0 rfl rfl ?_
  refine j_iload_n hg 1 dS_seal_1 rfl rfl ?_
  refine j_callV hg (n := 1) (y := yS_tapeReaches) (rm := rm_S_tapeReaches) (Ws := (cT yS_tapeReaches cS_tapeReaches 2 (some .boolean))) (As := [.int (nI j)]) (rest := []) (wr := [ob xs 0 [.ref c1, .ref c2], aI E c1 16 x.2.2.1, aI E c2 16 x.2.2.2, aB E xk 32 fk, aB E xn 12 fn, aB E xb 64 x.2.1, ob xp 1 [.ref p1, .ref p2, .ref p3, .ref p4, .ref p5, .ref p6], aL E p1 5 fa, aL E p2 5 t, aL E p3 5 p, aL E p4 4 wo, aI E p5 4 la, aB E p6 17 b, aB E xt 800 ta, aB E xo 816 x.1, aB E xz 16 siz, aB E xm 16 sm]) 0 rfl rfl (c_S_tapeReaches_y l E h xt xo xk xn xb xz xm xs xp xd tn on j (by omega) (by omega)) (gdV m131 m133 ms0 m1 m134) rfl (by decide +kernel) ⟨by decide, by decide⟩ rfl rfl (Nat.le_of_ble_eq_true rfl) ⟨by decide, by decide⟩ [0] [1, 2, 3, 4, 5, 6, 7, 8, 9, 10, 11, 12, 13, 14, 15, 16, 17] rfl rfl (by decide) (by decide) (by decide) dS_seal_2 (fun _ _ => ?_)
  show J E 3 g [ob xs 0 [.ref c1, .ref c2], aI E c1 16 x.2.2.1, aI E c2 16 x.2.2.2, aB E xk 32 fk, aB E xn 12 fn, aB E xb 64 x.2.1, ob xp 1 [.ref p1, .ref p2, .ref p3, .ref p4, .ref p5, .ref p6], aL E p1 5 fa, aL E p2 5 t, aL E p3 5 p, aL E p4 4 wo, aI E p5 4 la, aB E p6 17 b, aB E xt 800 ta, aB E xo 816 x.1, aB E xz 16 siz, aB E xm 16 sm, ob h 3 [.ref xt, .int (nI tn), .ref xo, .int (nI on), .ref xk, .ref xn, .ref xb, .ref xz, .ref xm, .ref xs, .ref xp, .ref xd]] [(0, .ref h), (1, .int (nI j))] 0 0 5 [.int 1]
  refine j_zne_t hg (tgt := 10) 1 rfl (by omega) (by omega) dS_seal_5 (by decide) ?_
  refine j_aload_n hg 0 dS_seal_10 rfl rfl ?_
  refine j_get hg (C := RX3) (T := TX3) (N := 12) inX3 17 rfl rfl 1 (by decide) m84 rfl dS_seal_11 ?_
  refine j_iload_n hg 1 dS_seal_14 rfl rfl ?_
  refine j_isub hg (v := nI (tn - j)) dS_seal_15 (pk_sub (a := tn) (b := j) (by omega)) ?_
  refine j_istore_n hg (lv' := [(2, .int (nI (tn - j))), (0, .ref h), (1, .int (nI j))]) dS_seal_16 rfl (by decide) rfl ?_
  refine j_aload_n hg 1 dS_seal_17 rfl rfl ?_
  refine j_iload_n hg 2 dS_seal_18 rfl rfl ?_
  refine j_iload_n hg 0 dS_seal_19 rfl rfl ?_
  refine j_callV hg (n := 2) (y := yS_streamTapeToOut) (rm := rm_S_streamTapeToOut) (Ws := (cT yS_streamTapeToOut cS_streamTapeToOut 7 none)) (As := [.int (nI j), .int (nI (tn - j))]) (rest := []) (wr := [ob xp 1 [.ref p1, .ref p2, .ref p3, .ref p4, .ref p5, .ref p6], aL E p1 5 fa, aL E p2 5 t, aL E p3 5 p, aL E p4 4 wo, aI E p5 4 la, aB E p6 17 b, aB E xz 16 siz, aB E xm 16 sm]) 0 rfl rfl (c_S_streamTapeToOut l E h xt xo xk xn xb xz xm xs xp xd tn on c1 c2 fk fn ta x j (tn - j) (by omega)) (gdV m244 m246 ms11 m1 m247) rfl (by decide +kernel) ⟨by decide, by decide⟩ rfl rfl (Nat.le_of_ble_eq_true rfl) ⟨by decide, by decide⟩ [17, 0, 1, 2, 3, 4, 5, 13, 14] [6, 7, 8, 9, 10, 11, 12, 15, 16] rfl rfl (by decide) (by decide) (by decide) dS_seal_20 (fun _ _ => ?_)
  show J E 3 g [ob xp 1 [.ref p1, .ref p2, .ref p3, .ref p4, .ref p5, .ref p6], aL E p1 5 fa, aL E p2 5 t, aL E p3 5 p, aL E p4 4 wo, aI E p5 4 la, aB E p6 17 b, aB E xz 16 siz, aB E xm 16 sm, ob h 3 [.ref xt, .int (nI tn), .ref xo, .int (nI on), .ref xk, .ref xn, .ref xb, .ref xz, .ref xm, .ref xs, .ref xp, .ref xd], ob xs 0 [.ref c1, .ref c2], aI E c1 16 ((covF x fk fn ta j (tn - j) ((tn - j + 63) / 64)).2.2.1), aI E c2 16 ((covF x fk fn ta j (tn - j) ((tn - j + 63) / 64)).2.2.2), aB E xk 32 fk, aB E xn 12 fn, aB E xb 64 ((covF x fk fn ta j (tn - j) ((tn - j + 63) / 64)).2.1), aB E xt 800 ta, aB E xo 816 ((covF x fk fn ta j (tn - j) ((tn - j + 63) / 64)).1)] [(2, .int (nI (tn - j))), (0, .ref h), (1, .int (nI j))] 0 0 23 []
  refine j_sub [9, 10, 11, 12, 13, 14, 15, 0, 1, 2, 3, 4, 5, 6, 16, 17, 7, 8] (ws' := [ob h 3 [.ref xt, .int (nI tn), .ref xo, .int (nI on), .ref xk, .ref xn, .ref xb, .ref xz, .ref xm, .ref xs, .ref xp, .ref xd], ob xs 0 [.ref c1, .ref c2], aI E c1 16 ((covF x fk fn ta j (tn - j) ((tn - j + 63) / 64)).2.2.1), aI E c2 16 ((covF x fk fn ta j (tn - j) ((tn - j + 63) / 64)).2.2.2), aB E xk 32 fk, aB E xn 12 fn, aB E xb 64 ((covF x fk fn ta j (tn - j) ((tn - j + 63) / 64)).2.1), ob xp 1 [.ref p1, .ref p2, .ref p3, .ref p4, .ref p5, .ref p6], aL E p1 5 fa, aL E p2 5 t, aL E p3 5 p, aL E p4 4 wo, aI E p5 4 la, aB E p6 17 b, aB E xt 800 ta, aB E xo 816 ((covF x fk fn ta j (tn - j) ((tn - j + 63) / 64)).1), aB E xz 16 siz, aB E xm 16 sm]) rfl (by decide) ?_
  show J E 3 g [ob h 3 [.ref xt, .int (nI tn), .ref xo, .int (nI on), .ref xk, .ref xn, .ref xb, .ref xz, .ref xm, .ref xs, .ref xp, .ref xd], ob xs 0 [.ref c1, .ref c2], aI E c1 16 ((sy (sealC x fk fn ta j tn) fa t p wo la b siz sm).1), aI E c2 16 ((sy (sealC x fk fn ta j tn) fa t p wo la b siz sm).2.1), aB E xk 32 fk, aB E xn 12 fn, aB E xb 64 ((sy (sealC x fk fn ta j tn) fa t p wo la b siz sm).2.2.1), ob xp 1 [.ref p1, .ref p2, .ref p3, .ref p4, .ref p5, .ref p6], aL E p1 5 ((sy (sealC x fk fn ta j tn) fa t p wo la b siz sm).2.2.2.1), aL E p2 5 ((sy (sealC x fk fn ta j tn) fa t p wo la b siz sm).2.2.2.2.1), aL E p3 5 ((sy (sealC x fk fn ta j tn) fa t p wo la b siz sm).2.2.2.2.2.1), aL E p4 4 ((sy (sealC x fk fn ta j tn) fa t p wo la b siz sm).2.2.2.2.2.2.1), aI E p5 4 ((sy (sealC x fk fn ta j tn) fa t p wo la b siz sm).2.2.2.2.2.2.2.1), aB E p6 17 ((sy (sealC x fk fn ta j tn) fa t p wo la b siz sm).2.2.2.2.2.2.2.2.1), aB E xt 800 ta, aB E xo 816 ((sealC x fk fn ta j tn).1), aB E xz 16 ((sy (sealC x fk fn ta j tn) fa t p wo la b siz sm).2.2.2.2.2.2.2.2.2.1), aB E xm 16 ((sy (sealC x fk fn ta j tn) fa t p wo la b siz sm).2.2.2.2.2.2.2.2.2.2)] [(2, .int (nI (tn - j))), (0, .ref h), (1, .int (nI j))] 0 0 23 []
  refine j_aload_n hg 1 dS_seal_23 rfl rfl ?_
  refine j_iload_n hg 2 dS_seal_24 rfl rfl ?_
  refine j_aload_n hg 1 dS_seal_25 rfl rfl ?_
  refine j_get hg (C := RX3) (T := TX3) (N := 12) inX3 0 rfl rfl 2 (by decide) m85 rfl dS_seal_26 ?_
  refine j_iconst hg (v := 0) dS_seal_29 (by decide) ?_
  refine j_iload_n hg 0 dS_seal_30 rfl rfl ?_
  refine j_callV hg (n := 4) (y := yS_sumSealed) (rm := rm_S_sumSealed) (Ws := (cT yS_sumSealed cS_sumSealed 5 none)) (As := [.int (nI j), .ref xo, .int 0, .int (nI (tn - j))]) (rest := []) (wr := []) 0 rfl rfl (c_S_sumSealed_o l E h xt xo xk xn xb xz xm xs xp xd tn on c1 c2 p1 p2 p3 p4 p5 p6 fk fn ta ((sealC x fk fn ta j tn).1) (sy (sealC x fk fn ta j tn) fa t p wo la b siz sm) j 0 (tn - j) hB2 hta hB1 hz (by omega) (by omega)) (gdV m249 m251 ms12 m1 m252) rfl (by decide +kernel) ⟨by decide, by decide⟩ rfl rfl (Nat.le_of_ble_eq_true rfl) ⟨by decide, by decide⟩ [0, 1, 2, 3, 4, 5, 6, 7, 8, 9, 10, 11, 12, 13, 14, 15, 16, 17] [] rfl rfl (by decide) (by decide) (by decide) dS_seal_31 (fun _ _ => ?_)
  show J E 3 g [ob h 3 [.ref xt, .int (nI tn), .ref xo, .int (nI on), .ref xk, .ref xn, .ref xb, .ref xz, .ref xm, .ref xs, .ref xp, .ref xd], ob xs 0 [.ref c1, .ref c2], aI E c1 16 ((ssF (sy (sealC x fk fn ta j tn) fa t p wo la b siz sm) fk fn ta ((sealC x fk fn ta j tn).1) j 0 (tn - j)).1), aI E c2 16 ((ssF (sy (sealC x fk fn ta j tn) fa t p wo la b siz sm) fk fn ta ((sealC x fk fn ta j tn).1) j 0 (tn - j)).2.1), aB E xk 32 fk, aB E xn 12 fn, aB E xb 64 ((ssF (sy (sealC x fk fn ta j tn) fa t p wo la b siz sm) fk fn ta ((sealC x fk fn ta j tn).1) j 0 (tn - j)).2.2.1), ob xp 1 [.ref p1, .ref p2, .ref p3, .ref p4, .ref p5, .ref p6], aL E p1 5 ((ssF (sy (sealC x fk fn ta j tn) fa t p wo la b siz sm) fk fn ta ((sealC x fk fn ta j tn).1) j 0 (tn - j)).2.2.2.1), aL E p2 5 ((ssF (sy (sealC x fk fn ta j tn) fa t p wo la b siz sm) fk fn ta ((sealC x fk fn ta j tn).1) j 0 (tn - j)).2.2.2.2.1), aL E p3 5 ((ssF (sy (sealC x fk fn ta j tn) fa t p wo la b siz sm) fk fn ta ((sealC x fk fn ta j tn).1) j 0 (tn - j)).2.2.2.2.2.1), aL E p4 4 ((ssF (sy (sealC x fk fn ta j tn) fa t p wo la b siz sm) fk fn ta ((sealC x fk fn ta j tn).1) j 0 (tn - j)).2.2.2.2.2.2.1), aI E p5 4 ((ssF (sy (sealC x fk fn ta j tn) fa t p wo la b siz sm) fk fn ta ((sealC x fk fn ta j tn).1) j 0 (tn - j)).2.2.2.2.2.2.2.1), aB E p6 17 ((ssF (sy (sealC x fk fn ta j tn) fa t p wo la b siz sm) fk fn ta ((sealC x fk fn ta j tn).1) j 0 (tn - j)).2.2.2.2.2.2.2.2.1), aB E xt 800 ta, aB E xo 816 ((sealC x fk fn ta j tn).1), aB E xz 16 ((ssF (sy (sealC x fk fn ta j tn) fa t p wo la b siz sm) fk fn ta ((sealC x fk fn ta j tn).1) j 0 (tn - j)).2.2.2.2.2.2.2.2.2.1), aB E xm 16 ((ssF (sy (sealC x fk fn ta j tn) fa t p wo la b siz sm) fk fn ta ((sealC x fk fn ta j tn).1) j 0 (tn - j)).2.2.2.2.2.2.2.2.2.2)] [(2, .int (nI (tn - j))), (0, .ref h), (1, .int (nI j))] 0 0 34 []
  show J E 3 g [ob h 3 [.ref xt, .int (nI tn), .ref xo, .int (nI on), .ref xk, .ref xn, .ref xb, .ref xz, .ref xm, .ref xs, .ref xp, .ref xd], ob xs 0 [.ref c1, .ref c2], aI E c1 16 ((sealS x fa t p wo la b siz sm fk fn ta j tn).1), aI E c2 16 ((sealS x fa t p wo la b siz sm fk fn ta j tn).2.1), aB E xk 32 fk, aB E xn 12 fn, aB E xb 64 ((sealS x fa t p wo la b siz sm fk fn ta j tn).2.2.1), ob xp 1 [.ref p1, .ref p2, .ref p3, .ref p4, .ref p5, .ref p6], aL E p1 5 ((sealS x fa t p wo la b siz sm fk fn ta j tn).2.2.2.1), aL E p2 5 ((sealS x fa t p wo la b siz sm fk fn ta j tn).2.2.2.2.1), aL E p3 5 ((sealS x fa t p wo la b siz sm fk fn ta j tn).2.2.2.2.2.1), aL E p4 4 ((sealS x fa t p wo la b siz sm fk fn ta j tn).2.2.2.2.2.2.1), aI E p5 4 ((sealS x fa t p wo la b siz sm fk fn ta j tn).2.2.2.2.2.2.2.1), aB E p6 17 ((sealS x fa t p wo la b siz sm fk fn ta j tn).2.2.2.2.2.2.2.2.1), aB E xt 800 ta, aB E xo 816 ((sealC x fk fn ta j tn).1), aB E xz 16 ((sealS x fa t p wo la b siz sm fk fn ta j tn).2.2.2.2.2.2.2.2.2.1), aB E xm 16 ((sealS x fa t p wo la b siz sm fk fn ta j tn).2.2.2.2.2.2.2.2.2.2)] [(2, .int (nI (tn - j))), (0, .ref h), (1, .int (nI j))] 0 0 34 []
  refine j_aload_n hg 1 dS_seal_34 rfl rfl ?_
  refine j_get hg (C := RX3) (T := TX3) (N := 12) inX3 0 rfl rfl 8 (by decide) m91 rfl dS_seal_35 ?_
  refine j_iconst hg (v := 0) dS_seal_38 (by decide) ?_
  refine j_aload_n hg 1 dS_seal_39 rfl rfl ?_
  refine j_get hg (C := RX3) (T := TX3) (N := 12) inX3 0 rfl rfl 2 (by decide) m85 rfl dS_seal_40 ?_
  refine j_iload_n hg 0 dS_seal_43 rfl rfl ?_
  refine j_bipush hg (v := 16) dS_seal_44 (by decide) ?_
  refine j_copyB hg (ws' := [ob h 3 [.ref xt, .int (nI tn), .ref xo, .int (nI on), .ref xk, .ref xn, .ref xb, .ref xz, .ref xm, .ref xs, .ref xp, .ref xd], ob xs 0 [.ref c1, .ref c2], aI E c1 16 ((sealS x fa t p wo la b siz sm fk fn ta j tn).1), aI E c2 16 ((sealS x fa t p wo la b siz sm fk fn ta j tn).2.1), aB E xk 32 fk, aB E xn 12 fn, aB E xb 64 ((sealS x fa t p wo la b siz sm fk fn ta j tn).2.2.1), ob xp 1 [.ref p1, .ref p2, .ref p3, .ref p4, .ref p5, .ref p6], aL E p1 5 ((sealS x fa t p wo la b siz sm fk fn ta j tn).2.2.2.1), aL E p2 5 ((sealS x fa t p wo la b siz sm fk fn ta j tn).2.2.2.2.1), aL E p3 5 ((sealS x fa t p wo la b siz sm fk fn ta j tn).2.2.2.2.2.1), aL E p4 4 ((sealS x fa t p wo la b siz sm fk fn ta j tn).2.2.2.2.2.2.1), aI E p5 4 ((sealS x fa t p wo la b siz sm fk fn ta j tn).2.2.2.2.2.2.2.1), aB E p6 17 ((sealS x fa t p wo la b siz sm fk fn ta j tn).2.2.2.2.2.2.2.2.1), aB E xt 800 ta, aB E xo 816 (va_cpy ((sealS x fa t p wo la b siz sm fk fn ta j tn).2.2.2.2.2.2.2.2.2.2) ((sealC x fk fn ta j tn).1) 0 (tn - j) 16), aB E xz 16 ((sealS x fa t p wo la b siz sm fk fn ta j tn).2.2.2.2.2.2.2.2.2.1), aB E xm 16 ((sealS x fa t p wo la b siz sm fk fn ta j tn).2.2.2.2.2.2.2.2.2.2)]) 17 15 0 (tn - j) 16 ⟨m139, m141, m140, m6⟩ rfl rfl rfl rfl rfl (by omega) (by omega) (by omega) (by omega) (fun t _ => hB3 _) (Nat.le_of_ble_eq_true rfl) (Nat.le_of_ble_eq_true rfl) rfl dS_seal_46 ?_
  refine j_aload_n hg 1 dS_seal_49 rfl rfl ?_
  refine j_iload_n hg 0 dS_seal_50 rfl rfl ?_
  refine j_bipush hg (v := 16) dS_seal_51 (by decide) ?_
  refine j_iadd hg (v := nI (tn - j + 16)) dS_seal_53 (nI_add (tn - j) 16) ?_
  refine j_put hg (C := RX3) (T := TX3) (N := 12) (ty := .int) (ws' := [ob h 3 [.ref xt, .int (nI tn), .ref xo, .int (nI (tn - j + 16)), .ref xk, .ref xn, .ref xb, .ref xz, .ref xm, .ref xs, .ref xp, .ref xd], ob xs 0 [.ref c1, .ref c2], aI E c1 16 ((sealS x fa t p wo la b siz sm fk fn ta j tn).1), aI E c2 16 ((sealS x fa t p wo la b siz sm fk fn ta j tn).2.1), aB E xk 32 fk, aB E xn 12 fn, aB E xb 64 ((sealS x fa t p wo la b siz sm fk fn ta j tn).2.2.1), ob xp 1 [.ref p1, .ref p2, .ref p3, .ref p4, .ref p5, .ref p6], aL E p1 5 ((sealS x fa t p wo la b siz sm fk fn ta j tn).2.2.2.1), aL E p2 5 ((sealS x fa t p wo la b siz sm fk fn ta j tn).2.2.2.2.1), aL E p3 5 ((sealS x fa t p wo la b siz sm fk fn ta j tn).2.2.2.2.2.1), aL E p4 4 ((sealS x fa t p wo la b siz sm fk fn ta j tn).2.2.2.2.2.2.1), aI E p5 4 ((sealS x fa t p wo la b siz sm fk fn ta j tn).2.2.2.2.2.2.2.1), aB E p6 17 ((sealS x fa t p wo la b siz sm fk fn ta j tn).2.2.2.2.2.2.2.2.1), aB E xt 800 ta, aB E xo 816 (va_cpy ((sealS x fa t p wo la b siz sm fk fn ta j tn).2.2.2.2.2.2.2.2.2.2) ((sealC x fk fn ta j tn).1) 0 (tn - j) 16), aB E xz 16 ((sealS x fa t p wo la b siz sm fk fn ta j tn).2.2.2.2.2.2.2.2.2.1), aB E xm 16 ((sealS x fa t p wo la b siz sm fk fn ta j tn).2.2.2.2.2.2.2.2.2.2)]) inX3 tyX3 tyX3_ok nmX3 0 rfl rfl 3 (by decide) m86 rfl (by decide +kernel) rfl rfl (Nat.le_of_ble_eq_true rfl) rfl dS_seal_54 ?_
  refine j_aload_n hg 1 dS_seal_57 rfl rfl ?_
  refine j_iconst hg (v := 0) dS_seal_58 (by decide) ?_
  refine j_put hg (C := RX3) (T := TX3) (N := 12) (ty := .int) (ws' := [ob h 3 [.ref xt, .int 0, .ref xo, .int (nI (tn - j + 16)), .ref xk, .ref xn, .ref xb, .ref xz, .ref xm, .ref xs, .ref xp, .ref xd], ob xs 0 [.ref c1, .ref c2], aI E c1 16 ((sealS x fa t p wo la b siz sm fk fn ta j tn).1), aI E c2 16 ((sealS x fa t p wo la b siz sm fk fn ta j tn).2.1), aB E xk 32 fk, aB E xn 12 fn, aB E xb 64 ((sealS x fa t p wo la b siz sm fk fn ta j tn).2.2.1), ob xp 1 [.ref p1, .ref p2, .ref p3, .ref p4, .ref p5, .ref p6], aL E p1 5 ((sealS x fa t p wo la b siz sm fk fn ta j tn).2.2.2.1), aL E p2 5 ((sealS x fa t p wo la b siz sm fk fn ta j tn).2.2.2.2.1), aL E p3 5 ((sealS x fa t p wo la b siz sm fk fn ta j tn).2.2.2.2.2.1), aL E p4 4 ((sealS x fa t p wo la b siz sm fk fn ta j tn).2.2.2.2.2.2.1), aI E p5 4 ((sealS x fa t p wo la b siz sm fk fn ta j tn).2.2.2.2.2.2.2.1), aB E p6 17 ((sealS x fa t p wo la b siz sm fk fn ta j tn).2.2.2.2.2.2.2.2.1), aB E xt 800 ta, aB E xo 816 (va_cpy ((sealS x fa t p wo la b siz sm fk fn ta j tn).2.2.2.2.2.2.2.2.2.2) ((sealC x fk fn ta j tn).1) 0 (tn - j) 16), aB E xz 16 ((sealS x fa t p wo la b siz sm fk fn ta j tn).2.2.2.2.2.2.2.2.2.1), aB E xm 16 ((sealS x fa t p wo la b siz sm fk fn ta j tn).2.2.2.2.2.2.2.2.2.2)]) inX3 tyX3 tyX3_ok nmX3 0 rfl rfl 1 (by decide) m84 rfl (by decide +kernel) rfl rfl (Nat.le_of_ble_eq_true rfl) rfl dS_seal_59 ?_
  refine j_aload_n hg 1 dS_seal_62 rfl rfl ?_
  refine j_get hg (C := RX3) (T := TX3) (N := 12) inX3 0 rfl rfl 3 (by decide) m86 rfl dS_seal_63 ?_
  exact j_iret hg hR rfl () trivial rfl [0, 1, 2, 3, 4, 5, 6, 7, 8, 9, 10, 11, 12, 13, 14, 15, 16, 17] rfl (by decide) (by decide) (by decide) dS_seal_66

def rm_S_open : Room := { frames := 5, cells := 0, slots := 0, locals := 125 }
set_option maxHeartbeats 1000000 in
set_option maxRecDepth 100000 in
theorem c_S_open_r (l : Launch) (E : Ev) (h xt xo xk xn xb xz xm xs xp xd : Nat) (tn on : Nat) (n : Int32) (hn : ro n tn = none) (ht : tn < 1000000) : MC E l yS_open (cT yS_open cS_open 3 (some .int)) rm_S_open [.ref h, .int n] [ob h 3 [.ref xt, .int (nI tn), .ref xo, .int (nI on), .ref xk, .ref xn, .ref xb, .ref xz, .ref xm, .ref xs, .ref xp, .ref xd]] Unit (fun _ => True) (fun _ => some (.int (-1))) (fun _ => [ob h 3 [.ref xt, .int (nI tn), .ref xo, .int (nI on), .ref xk, .ref xn, .ref xb, .ref xz, .ref xm, .ref xs, .ref xp, .ref xd]]) := by
  refine MC.of (cc := cS_open) (nL := 3) (ret := (some .int)) (by decide) rfl cT_in (Nat.le_of_ble_eq_true rfl) (fun g hg hR => ?_)
  show J E 3 g [ob h 3 [.ref xt, .int (nI tn), .ref xo, .int (nI on), .ref xk, .ref xn, .ref xb, .ref xz, .ref xm, .ref xs, .ref xp, .ref xd]] [(0, .ref h), (1, .int n)] 0 0 0 []
  refine j_iload_n hg 1 dS_open_0 rfl rfl ?_
  refine j_if_lt hg (tgt := 15) dS_open_1 (by decide) (fun hc => ?_) (fun hc => ?_)
  · skip
    refine j_iconst hg (v := -1) dS_open_15 (by decide) ?_
    exact j_iret hg hR rfl () trivial rfl [0] rfl (by decide) (by decide) (by decide) dS_open_16
  · skip
    obtain ⟨j, hj, rfl⟩ := nI_of hc
    refine j_iload_n hg 1 dS_open_4 rfl rfl ?_
    refine j_aload_n hg 0 dS_open_5 rfl rfl ?_
    refine j_get hg (C := RX3) (T := TX3) (N := 12) inX3 0 rfl rfl 1 (by decide) m84 rfl dS_open_6 ?_
    refine j_bipush hg (v := 16) dS_open_9 (by decide) ?_
    refine j_isub hg (v := (nI tn) - 16) dS_open_11 rfl ?_
    refine j_icmp_le hg (tgt := 17) dS_open_12 (by decide) (fun c => absurd c (ro_cmp hj ht (ro_lt hj hn))) (fun _ => ?_)
    refine j_iconst hg (v := -1) dS_open_15 (by decide) ?_
    exact j_iret hg hR rfl () trivial rfl [0] rfl (by decide) (by decide) (by decide) dS_open_16

set_option maxHeartbeats 1000000 in
set_option maxRecDepth 100000 in
theorem c_S_open_n (l : Launch) (E : Ev) (h xt xo xk xn xb xz xm xs xp xd : Nat) (tn on : Nat) (c1 c2 p1 p2 p3 p4 p5 p6 : Nat) (x : CS) (fa t p wo : Nat → Int64) (la b siz sm fk fn ta : Nat → Int32) (j : Nat) (hsb : Byt x.2.1) (ho : Byt x.1) (hta : Byt ta) (hz : Byt siz) (hsm : Byt sm) (hj : j + 16 ≤ tn) (ht : tn ≤ 800) (hd : ¬ dif ((openS x fa t p wo la b siz sm fk fn ta j tn).2.2.2.2.2.2.2.2.2.2) ta (j + (tn - 16 - j)) 16 = 0) : MC E l yS_open (cT yS_open cS_open 3 (some .int)) rm_S_open [.ref h, .int (nI j)] [ob h 3 [.ref xt, .int (nI tn), .ref xo, .int (nI on), .ref xk, .ref xn, .ref xb, .ref xz, .ref xm, .ref xs, .ref xp, .ref xd], ob xs 0 [.ref c1, .ref c2], aI E c1 16 x.2.2.1, aI E c2 16 x.2.2.2, aB E xk 32 fk, aB E xn 12 fn, aB E xb 64 x.2.1, ob xp 1 [.ref p1, .ref p2, .ref p3, .ref p4, .ref p5, .ref p6], aL E p1 5 fa, aL E p2 5 t, aL E p3 5 p, aL E p4 4 wo, aI E p5 4 la, aB E p6 17 b, aB E xt 800 ta, aB E xo 816 x.1, aB E xz 16 siz, aB E xm 16 sm] Unit (fun _ => True) (fun _ => some (.int (-2))) (fun _ => [ob h 3 [.ref xt, .int 0, .ref xo, .int (nI on), .ref xk, .ref xn, .ref xb, .ref xz, .ref xm, .ref xs, .ref xp, .ref xd], ob xs 0 [.ref c1, .ref c2], aI E c1 16 ((openS x fa t p wo la b siz sm fk fn ta j tn).1), aI E c2 16 ((openS x fa t p wo la b siz sm fk fn ta j tn).2.1), aB E xk 32 fk, aB E xn 12 fn, aB E xb 64 ((openS x fa t p wo la b siz sm fk fn ta j tn).2.2.1), ob xp 1 [.ref p1, .ref p2, .ref p3, .ref p4, .ref p5, .ref p6], aL E p1 5 ((openS x fa t p wo la b siz sm fk fn ta j tn).2.2.2.1), aL E p2 5 ((openS x fa t p wo la b siz sm fk fn ta j tn).2.2.2.2.1), aL E p3 5 ((openS x fa t p wo la b siz sm fk fn ta j tn).2.2.2.2.2.1), aL E p4 4 ((openS x fa t p wo la b siz sm fk fn ta j tn).2.2.2.2.2.2.1), aI E p5 4 ((openS x fa t p wo la b siz sm fk fn ta j tn).2.2.2.2.2.2.2.1), aB E p6 17 ((openS x fa t p wo la b siz sm fk fn ta j tn).2.2.2.2.2.2.2.2.1), aB E xt 800 ta, aB E xo 816 x.1, aB E xz 16 ((openS x fa t p wo la b siz sm fk fn ta j tn).2.2.2.2.2.2.2.2.2.1), aB E xm 16 ((openS x fa t p wo la b siz sm fk fn ta j tn).2.2.2.2.2.2.2.2.2.2)]) := by
  refine MC.of (cc := cS_open) (nL := 3) (ret := (some .int)) (by decide) rfl cT_in (Nat.le_of_ble_eq_true rfl) (fun g hg hR => ?_)
  show J E 3 g [ob h 3 [.ref xt, .int (nI tn), .ref xo, .int (nI on), .ref xk, .ref xn, .ref xb, .ref xz, .ref xm, .ref xs, .ref xp, .ref xd], ob xs 0 [.ref c1, .ref c2], aI E c1 16 x.2.2.1, aI E c2 16 x.2.2.2, aB E xk 32 fk, aB E xn 12 fn, aB E xb 64 x.2.1, ob xp 1 [.ref p1, .ref p2, .ref p3, .ref p4, .ref p5, .ref p6], aL E p1 5 fa, aL E p2 5 t, aL E p3 5 p, aL E p4 4 wo, aI E p5 4 la, aB E p6 17 b, aB E xt 800 ta, aB E xo 816 x.1, aB E xz 16 siz, aB E xm 16 sm] [(0, .ref h), (1, .int (nI j))] 0 0 0 []
  refine j_iload_n hg 1 dS_open_0 rfl rfl ?_
  refine j_zlt_f hg (tgt := 15) j rfl (by omega) (by omega) dS_open_1 (by decide) ?_
  refine j_iload_n hg 1 dS_open_4 rfl rfl ?_
  refine j_aload_n hg 0 dS_open_5 rfl rfl ?_
  refine j_get hg (C := RX3) (T := TX3) (N := 12) inX3 0 rfl rfl 1 (by decide) m84 rfl dS_open_6 ?_
  refine j_bipush hg (v := 16) dS_open_9 (by decide) ?_
  refine j_isub hg (v := nI (tn - 16)) dS_open_11 (pk_sub (a := tn) (b := 16) (by omega)) ?_
  refine j_nle_t hg (tgt := 17) j (tn - 16) rfl rfl (by omega) (by omega) (by omega) dS_open_12 (by decide) ?_
  refine j_aload_n hg 0 dS_open_17 rfl rfl ?_
  refine j_get hg (C := RX3) (T := TX3) (N := 12) inX3 0 rfl rfl 1 (by decide) m84 rfl dS_open_18 ?_
  refine j_bipush hg (v := 16) dS_open_21 (by decide) ?_
  refine j_isub hg (v := nI (tn - 16)) dS_open_23 (pk_sub (a := tn) (b := 16) (by omega)) ?_
  refine j_iload_n hg 1 dS_open_24 rfl rfl ?_
  refine j_isub hg (v := nI ((tn - 16) - j)) dS_open_25 (pk_sub (a := tn - 16) (b := j) (by omega)) ?_
  refine j_istore_n hg (lv' := [(2, .int (nI ((tn - 16) - j))), (0, .ref h), (1, .int (nI j))]) dS_open_26 rfl (by decide) rfl ?_
  show J E 3 g [ob h 3 [.ref xt, .int (nI tn), .ref xo, .int (nI on), .ref xk, .ref xn, .ref xb, .ref xz, .ref xm, .ref xs, .ref xp, .ref xd], ob xs 0 [.ref c1, .ref c2], aI E c1 16 ((sy x fa t p wo la b siz sm).1), aI E c2 16 ((sy x fa t p wo la b siz sm).2.1), aB E xk 32 fk, aB E xn 12 fn, aB E xb 64 ((sy x fa t p wo la b siz sm).2.2.1), ob xp 1 [.ref p1, .ref p2, .ref p3, .ref p4, .ref p5, .ref p6], aL E p1 5 ((sy x fa t p wo la b siz sm).2.2.2.1), aL E p2 5 ((sy x fa t p wo la b siz sm).2.2.2.2.1), aL E p3 5 ((sy x fa t p wo la b siz sm).2.2.2.2.2.1), aL E p4 4 ((sy x fa t p wo la b siz sm).2.2.2.2.2.2.1), aI E p5 4 ((sy x fa t p wo la b siz sm).2.2.2.2.2.2.2.1), aB E p6 17 ((sy x fa t p wo la b siz sm).2.2.2.2.2.2.2.2.1), aB E xt 800 ta, aB E xo 816 x.1, aB E xz 16 ((sy x fa t p wo la b siz sm).2.2.2.2.2.2.2.2.2.1), aB E xm 16 ((sy x fa t p wo la b siz sm).2.2.2.2.2.2.2.2.2.2)] [(2, .int (nI ((tn - 16) - j))), (0, .ref h), (1, .int (nI j))] 0 0 27 []
  refine j_aload_n hg 1 dS_open_27 rfl rfl ?_
  refine j_iload_n hg 2 dS_open_28 rfl rfl ?_
  refine j_aload_n hg 1 dS_open_29 rfl rfl ?_
  refine j_get hg (C := RX3) (T := TX3) (N := 12) inX3 0 rfl rfl 0 (by decide) m83 rfl dS_open_30 ?_
  refine j_iload_n hg 2 dS_open_33 rfl rfl ?_
  refine j_iload_n hg 0 dS_open_34 rfl rfl ?_
  refine j_callV hg (n := 4) (y := yS_sumSealed) (rm := rm_S_sumSealed) (Ws := (cT yS_sumSealed cS_sumSealed 5 none)) (As := [.int (nI j), .ref xt, .int (nI j), .int (nI ((tn - 16) - j))]) (rest := []) (wr := [aB E xo 816 x.1]) 0 rfl rfl (c_S_sumSealed_t l E h xt xo xk xn xb xz xm xs xp xd tn on c1 c2 p1 p2 p3 p4 p5 p6 fk fn ta  (sy x fa t p wo la b siz sm) j j ((tn - 16) - j) hsb hta hz (by omega) (by omega)) (gdV m249 m251 ms12 m1 m252) rfl (by decide +kernel) ⟨by decide, by decide⟩ rfl rfl (Nat.le_of_ble_eq_true rfl) ⟨by decide, by decide⟩ [0, 1, 2, 3, 4, 5, 6, 7, 8, 9, 10, 11, 12, 13, 14, 16, 17] [15] rfl rfl (by decide) (by decide) (by decide) dS_open_35 (fun _ _ => ?_)
  show J E 3 g [aB E xo 816 x.1, ob h 3 [.ref xt, .int (nI tn), .ref xo, .int (nI on), .ref xk, .ref xn, .ref xb, .ref xz, .ref xm, .ref xs, .ref xp, .ref xd], ob xs 0 [.ref c1, .ref c2], aI E c1 16 ((ssF (sy x fa t p wo la b siz sm) fk fn ta ta j j ((tn - 16) - j)).1), aI E c2 16 ((ssF (sy x fa t p wo la b siz sm) fk fn ta ta j j ((tn - 16) - j)).2.1), aB E xk 32 fk, aB E xn 12 fn, aB E xb 64 ((ssF (sy x fa t p wo la b siz sm) fk fn ta ta j j ((tn - 16) - j)).2.2.1), ob xp 1 [.ref p1, .ref p2, .ref p3, .ref p4, .ref p5, .ref p6], aL E p1 5 ((ssF (sy x fa t p wo la b siz sm) fk fn ta ta j j ((tn - 16) - j)).2.2.2.1), aL E p2 5 ((ssF (sy x fa t p wo la b siz sm) fk fn ta ta j j ((tn - 16) - j)).2.2.2.2.1), aL E p3 5 ((ssF (sy x fa t p wo la b siz sm) fk fn ta ta j j ((tn - 16) - j)).2.2.2.2.2.1), aL E p4 4 ((ssF (sy x fa t p wo la b siz sm) fk fn ta ta j j ((tn - 16) - j)).2.2.2.2.2.2.1), aI E p5 4 ((ssF (sy x fa t p wo la b siz sm) fk fn ta ta j j ((tn - 16) - j)).2.2.2.2.2.2.2.1), aB E p6 17 ((ssF (sy x fa t p wo la b siz sm) fk fn ta ta j j ((tn - 16) - j)).2.2.2.2.2.2.2.2.1), aB E xt 800 ta, aB E xz 16 ((ssF (sy x fa t p wo la b siz sm) fk fn ta ta j j ((tn - 16) - j)).2.2.2.2.2.2.2.2.2.1), aB E xm 16 ((ssF (sy x fa t p wo la b siz sm) fk fn ta ta j j ((tn - 16) - j)).2.2.2.2.2.2.2.2.2.2)] [(2, .int (nI ((tn - 16) - j))), (0, .ref h), (1, .int (nI j))] 0 0 38 []
  refine j_sub [1, 2, 3, 4, 5, 6, 7, 8, 9, 10, 11, 12, 13, 14, 15, 0, 16, 17] (ws' := [ob h 3 [.ref xt, .int (nI tn), .ref xo, .int (nI on), .ref xk, .ref xn, .ref xb, .ref xz, .ref xm, .ref xs, .ref xp, .ref xd], ob xs 0 [.ref c1, .ref c2], aI E c1 16 ((ssF (sy x fa t p wo la b siz sm) fk fn ta ta j j ((tn - 16) - j)).1), aI E c2 16 ((ssF (sy x fa t p wo la b siz sm) fk fn ta ta j j ((tn - 16) - j)).2.1), aB E xk 32 fk, aB E xn 12 fn, aB E xb 64 ((ssF (sy x fa t p wo la b siz sm) fk fn ta ta j j ((tn - 16) - j)).2.2.1), ob xp 1 [.ref p1, .ref p2, .ref p3, .ref p4, .ref p5, .ref p6], aL E p1 5 ((ssF (sy x fa t p wo la b siz sm) fk fn ta ta j j ((tn - 16) - j)).2.2.2.1), aL E p2 5 ((ssF (sy x fa t p wo la b siz sm) fk fn ta ta j j ((tn - 16) - j)).2.2.2.2.1), aL E p3 5 ((ssF (sy x fa t p wo la b siz sm) fk fn ta ta j j ((tn - 16) - j)).2.2.2.2.2.1), aL E p4 4 ((ssF (sy x fa t p wo la b siz sm) fk fn ta ta j j ((tn - 16) - j)).2.2.2.2.2.2.1), aI E p5 4 ((ssF (sy x fa t p wo la b siz sm) fk fn ta ta j j ((tn - 16) - j)).2.2.2.2.2.2.2.1), aB E p6 17 ((ssF (sy x fa t p wo la b siz sm) fk fn ta ta j j ((tn - 16) - j)).2.2.2.2.2.2.2.2.1), aB E xt 800 ta, aB E xo 816 x.1, aB E xz 16 ((ssF (sy x fa t p wo la b siz sm) fk fn ta ta j j ((tn - 16) - j)).2.2.2.2.2.2.2.2.2.1), aB E xm 16 ((ssF (sy x fa t p wo la b siz sm) fk fn ta ta j j ((tn - 16) - j)).2.2.2.2.2.2.2.2.2.2)]) rfl (by decide) ?_
  show J E 3 g [ob h 3 [.ref xt, .int (nI tn), .ref xo, .int (nI on), .ref xk, .ref xn, .ref xb, .ref xz, .ref xm, .ref xs, .ref xp, .ref xd], ob xs 0 [.ref c1, .ref c2], aI E c1 16 ((openS x fa t p wo la b siz sm fk fn ta j tn).1), aI E c2 16 ((openS x fa t p wo la b siz sm fk fn ta j tn).2.1), aB E xk 32 fk, aB E xn 12 fn, aB E xb 64 ((openS x fa t p wo la b siz sm fk fn ta j tn).2.2.1), ob xp 1 [.ref p1, .ref p2, .ref p3, .ref p4, .ref p5, .ref p6], aL E p1 5 ((openS x fa t p wo la b siz sm fk fn ta j tn).2.2.2.1), aL E p2 5 ((openS x fa t p wo la b siz sm fk fn ta j tn).2.2.2.2.1), aL E p3 5 ((openS x fa t p wo la b siz sm fk fn ta j tn).2.2.2.2.2.1), aL E p4 4 ((openS x fa t p wo la b siz sm fk fn ta j tn).2.2.2.2.2.2.1), aI E p5 4 ((openS x fa t p wo la b siz sm fk fn ta j tn).2.2.2.2.2.2.2.1), aB E p6 17 ((openS x fa t p wo la b siz sm fk fn ta j tn).2.2.2.2.2.2.2.2.1), aB E xt 800 ta, aB E xo 816 x.1, aB E xz 16 ((openS x fa t p wo la b siz sm fk fn ta j tn).2.2.2.2.2.2.2.2.2.1), aB E xm 16 ((openS x fa t p wo la b siz sm fk fn ta j tn).2.2.2.2.2.2.2.2.2.2)] [(2, .int (nI ((tn - 16) - j))), (0, .ref h), (1, .int (nI j))] 0 0 38 []
  refine j_aload_n hg 1 dS_open_38 rfl rfl ?_
  refine j_iconst hg (v := 0) dS_open_39 (by decide) ?_
  refine j_put hg (C := RX3) (T := TX3) (N := 12) (ty := .int) (ws' := [ob h 3 [.ref xt, .int 0, .ref xo, .int (nI on), .ref xk, .ref xn, .ref xb, .ref xz, .ref xm, .ref xs, .ref xp, .ref xd], ob xs 0 [.ref c1, .ref c2], aI E c1 16 ((openS x fa t p wo la b siz sm fk fn ta j tn).1), aI E c2 16 ((openS x fa t p wo la b siz sm fk fn ta j tn).2.1), aB E xk 32 fk, aB E xn 12 fn, aB E xb 64 ((openS x fa t p wo la b siz sm fk fn ta j tn).2.2.1), ob xp 1 [.ref p1, .ref p2, .ref p3, .ref p4, .ref p5, .ref p6], aL E p1 5 ((openS x fa t p wo la b siz sm fk fn ta j tn).2.2.2.1), aL E p2 5 ((openS x fa t p wo la b siz sm fk fn ta j tn).2.2.2.2.1), aL E p3 5 ((openS x fa t p wo la b siz sm fk fn ta j tn).2.2.2.2.2.1), aL E p4 4 ((openS x fa t p wo la b siz sm fk fn ta j tn).2.2.2.2.2.2.1), aI E p5 4 ((openS x fa t p wo la b siz sm fk fn ta j tn).2.2.2.2.2.2.2.1), aB E p6 17 ((openS x fa t p wo la b siz sm fk fn ta j tn).2.2.2.2.2.2.2.2.1), aB E xt 800 ta, aB E xo 816 x.1, aB E xz 16 ((openS x fa t p wo la b siz sm fk fn ta j tn).2.2.2.2.2.2.2.2.2.1), aB E xm 16 ((openS x fa t p wo la b siz sm fk fn ta j tn).2.2.2.2.2.2.2.2.2.2)]) inX3 tyX3 tyX3_ok nmX3 0 rfl rfl 1 (by decide) m84 rfl (by decide +kernel) rfl rfl (Nat.le_of_ble_eq_true rfl) rfl dS_open_40 ?_
  refine j_aload_n hg 1 dS_open_43 rfl rfl ?_
  refine j_iload_n hg 2 dS_open_44 rfl rfl ?_
  refine j_iload_n hg 0 dS_open_45 rfl rfl ?_
  refine j_iadd hg (v := nI (j + ((tn - 16) - j))) dS_open_46 (nI_add j ((tn - 16) - j)) ?_
  refine j_callV hg (n := 1) (y := yS_sumStandsAt) (rm := rm_S_sumStandsAt) (Ws := (cT yS_sumStandsAt cS_sumStandsAt 4 (some .boolean))) (As := [.int (nI (j + ((tn - 16) - j)))]) (rest := []) (wr := [ob xs 0 [.ref c1, .ref c2], aI E c1 16 ((openS x fa t p wo la b siz sm fk fn ta j tn).1), aI E c2 16 ((openS x fa t p wo la b siz sm fk fn ta j tn).2.1), aB E xk 32 fk, aB E xn 12 fn, aB E xb 64 ((openS x fa t p wo la b siz sm fk fn ta j tn).2.2.1), ob xp 1 [.ref p1, .ref p2, .ref p3, .ref p4, .ref p5, .ref p6], aL E p1 5 ((openS x fa t p wo la b siz sm fk fn ta j tn).2.2.2.1), aL E p2 5 ((openS x fa t p wo la b siz sm fk fn ta j tn).2.2.2.2.1), aL E p3 5 ((openS x fa t p wo la b siz sm fk fn ta j tn).2.2.2.2.2.1), aL E p4 4 ((openS x fa t p wo la b siz sm fk fn ta j tn).2.2.2.2.2.2.1), aI E p5 4 ((openS x fa t p wo la b siz sm fk fn ta j tn).2.2.2.2.2.2.2.1), aB E p6 17 ((openS x fa t p wo la b siz sm fk fn ta j tn).2.2.2.2.2.2.2.2.1), aB E xo 816 x.1, aB E xz 16 ((openS x fa t p wo la b siz sm fk fn ta j tn).2.2.2.2.2.2.2.2.2.1)]) 0 rfl rfl (c_S_sumStandsAt_n l E h xt xo xk xn xb xz xm xs xp xd 0 on ta ((openS x fa t p wo la b siz sm fk fn ta j tn).2.2.2.2.2.2.2.2.2.2) (j + ((tn - 16) - j)) (by omega) hd) (gdV m262 m264 ms13 m1 m265) rfl (by decide +kernel) ⟨by decide, by decide⟩ rfl rfl (Nat.le_of_ble_eq_true rfl) ⟨by decide, by decide⟩ [0, 14, 17] [1, 2, 3, 4, 5, 6, 7, 8, 9, 10, 11, 12, 13, 15, 16] rfl rfl (by decide) (by decide) (by decide) dS_open_47 (fun _ _ => ?_)
  show J E 3 g [ob xs 0 [.ref c1, .ref c2], aI E c1 16 ((openS x fa t p wo la b siz sm fk fn ta j tn).1), aI E c2 16 ((openS x fa t p wo la b siz sm fk fn ta j tn).2.1), aB E xk 32 fk, aB E xn 12 fn, aB E xb 64 ((openS x fa t p wo la b siz sm fk fn ta j tn).2.2.1), ob xp 1 [.ref p1, .ref p2, .ref p3, .ref p4, .ref p5, .ref p6], aL E p1 5 ((openS x fa t p wo la b siz sm fk fn ta j tn).2.2.2.1), aL E p2 5 ((openS x fa t p wo la b siz sm fk fn ta j tn).2.2.2.2.1), aL E p3 5 ((openS x fa t p wo la b siz sm fk fn ta j tn).2.2.2.2.2.1), aL E p4 4 ((openS x fa t p wo la b siz sm fk fn ta j tn).2.2.2.2.2.2.1), aI E p5 4 ((openS x fa t p wo la b siz sm fk fn ta j tn).2.2.2.2.2.2.2.1), aB E p6 17 ((openS x fa t p wo la b siz sm fk fn ta j tn).2.2.2.2.2.2.2.2.1), aB E xo 816 x.1, aB E xz 16 ((openS x fa t p wo la b siz sm fk fn ta j tn).2.2.2.2.2.2.2.2.2.1), ob h 3 [.ref xt, .int 0, .ref xo, .int (nI on), .ref xk, .ref xn, .ref xb, .ref xz, .ref xm, .ref xs, .ref xp, .ref xd], aB E xt 800 ta, aB E xm 16 ((openS x fa t p wo la b siz sm fk fn ta j tn).2.2.2.2.2.2.2.2.2.2)] [(2, .int (nI ((tn - 16) - j))), (0, .ref h), (1, .int (nI j))] 0 0 50 [.int 0]
  refine j_zne_f hg (tgt := 56) 0 rfl (by omega) (by omega) dS_open_50 (by decide) ?_
  refine j_bipush hg (v := -2) dS_open_53 (by decide) ?_
  exact j_iret hg hR rfl () trivial rfl [15, 0, 1, 2, 3, 4, 5, 6, 7, 8, 9, 10, 11, 12, 16, 13, 14, 17] rfl (by decide) (by decide) (by decide) dS_open_55

set_option maxHeartbeats 1000000 in
set_option maxRecDepth 100000 in
theorem c_S_open_y (l : Launch) (E : Ev) (h xt xo xk xn xb xz xm xs xp xd : Nat) (tn on : Nat) (c1 c2 p1 p2 p3 p4 p5 p6 : Nat) (x : CS) (fa t p wo : Nat → Int64) (la b siz sm fk fn ta : Nat → Int32) (j : Nat) (hsb : Byt x.2.1) (ho : Byt x.1) (hta : Byt ta) (hz : Byt siz) (hsm : Byt sm) (hj : j + 16 ≤ tn) (ht : tn ≤ 800) (hd : dif ((openS x fa t p wo la b siz sm fk fn ta j tn).2.2.2.2.2.2.2.2.2.2) ta (j + (tn - 16 - j)) 16 = 0) : MC E l yS_open (cT yS_open cS_open 3 (some .int)) rm_S_open [.ref h, .int (nI j)] [ob h 3 [.ref xt, .int (nI tn), .ref xo, .int (nI on), .ref xk, .ref xn, .ref xb, .ref xz, .ref xm, .ref xs, .ref xp, .ref xd], ob xs 0 [.ref c1, .ref c2], aI E c1 16 x.2.2.1, aI E c2 16 x.2.2.2, aB E xk 32 fk, aB E xn 12 fn, aB E xb 64 x.2.1, ob xp 1 [.ref p1, .ref p2, .ref p3, .ref p4, .ref p5, .ref p6], aL E p1 5 fa, aL E p2 5 t, aL E p3 5 p, aL E p4 4 wo, aI E p5 4 la, aB E p6 17 b, aB E xt 800 ta, aB E xo 816 x.1, aB E xz 16 siz, aB E xm 16 sm] Unit (fun _ => True) (fun _ => some (.int (nI (tn - 16 - j)))) (fun _ => [ob h 3 [.ref xt, .int 0, .ref xo, .int (nI (tn - 16 - j)), .ref xk, .ref xn, .ref xb, .ref xz, .ref xm, .ref xs, .ref xp, .ref xd], ob xs 0 [.ref c1, .ref c2], aI E c1 16 ((openC x fa t p wo la b siz sm fk fn ta j tn).2.2.1), aI E c2 16 ((openC x fa t p wo la b siz sm fk fn ta j tn).2.2.2), aB E xk 32 fk, aB E xn 12 fn, aB E xb 64 ((openC x fa t p wo la b siz sm fk fn ta j tn).2.1), ob xp 1 [.ref p1, .ref p2, .ref p3, .ref p4, .ref p5, .ref p6], aL E p1 5 ((openS x fa t p wo la b siz sm fk fn ta j tn).2.2.2.1), aL E p2 5 ((openS x fa t p wo la b siz sm fk fn ta j tn).2.2.2.2.1), aL E p3 5 ((openS x fa t p wo la b siz sm fk fn ta j tn).2.2.2.2.2.1), aL E p4 4 ((openS x fa t p wo la b siz sm fk fn ta j tn).2.2.2.2.2.2.1), aI E p5 4 ((openS x fa t p wo la b siz sm fk fn ta j tn).2.2.2.2.2.2.2.1), aB E p6 17 ((openS x fa t p wo la b siz sm fk fn ta j tn).2.2.2.2.2.2.2.2.1), aB E xt 800 ta, aB E xo 816 ((openC x fa t p wo la b siz sm fk fn ta j tn).1), aB E xz 16 ((openS x fa t p wo la b siz sm fk fn ta j tn).2.2.2.2.2.2.2.2.2.1), aB E xm 16 ((openS x fa t p wo la b siz sm fk fn ta j tn).2.2.2.2.2.2.2.2.2.2)]) := by
  refine MC.of (cc := cS_open) (nL := 3) (ret := (some .int)) (by decide) rfl cT_in (Nat.le_of_ble_eq_true rfl) (fun g hg hR => ?_)
  show J E 3 g [ob h 3 [.ref xt, .int (nI tn), .ref xo, .int (nI on), .ref xk, .ref xn, .ref xb, .ref xz, .ref xm, .ref xs, .ref xp, .ref xd], ob xs 0 [.ref c1, .ref c2], aI E c1 16 x.2.2.1, aI E c2 16 x.2.2.2, aB E xk 32 fk, aB E xn 12 fn, aB E xb 64 x.2.1, ob xp 1 [.ref p1, .ref p2, .ref p3, .ref p4, .ref p5, .ref p6], aL E p1 5 fa, aL E p2 5 t, aL E p3 5 p, aL E p4 4 wo, aI E p5 4 la, aB E p6 17 b, aB E xt 800 ta, aB E xo 816 x.1, aB E xz 16 siz, aB E xm 16 sm] [(0, .ref h), (1, .int (nI j))] 0 0 0 []
  refine j_iload_n hg 1 dS_open_0 rfl rfl ?_
  refine j_zlt_f hg (tgt := 15) j rfl (by omega) (by omega) dS_open_1 (by decide) ?_
  refine j_iload_n hg 1 dS_open_4 rfl rfl ?_
  refine j_aload_n hg 0 dS_open_5 rfl rfl ?_
  refine j_get hg (C := RX3) (T := TX3) (N := 12) inX3 0 rfl rfl 1 (by decide) m84 rfl dS_open_6 ?_
  refine j_bipush hg (v := 16) dS_open_9 (by decide) ?_
  refine j_isub hg (v := nI (tn - 16)) dS_open_11 (pk_sub (a := tn) (b := 16) (by omega)) ?_
  refine j_nle_t hg (tgt := 17) j (tn - 16) rfl rfl (by omega) (by omega) (by omega) dS_open_12 (by decide) ?_
  refine j_aload_n hg 0 dS_open_17 rfl rfl ?_
  refine j_get hg (C := RX3) (T := TX3) (N := 12) inX3 0 rfl rfl 1 (by decide) m84 rfl dS_open_18 ?_
  refine j_bipush hg (v := 16) dS_open_21 (by decide) ?_
  refine j_isub hg (v := nI (tn - 16)) dS_open_23 (pk_sub (a := tn) (b := 16) (by omega)) ?_
  refine j_iload_n hg 1 dS_open_24 rfl rfl ?_
  refine j_isub hg (v := nI ((tn - 16) - j)) dS_open_25 (pk_sub (a := tn - 16) (b := j) (by omega)) ?_
  refine j_istore_n hg (lv' := [(2, .int (nI ((tn - 16) - j))), (0, .ref h), (1, .int (nI j))]) dS_open_26 rfl (by decide) rfl ?_
  show J E 3 g [ob h 3 [.ref xt, .int (nI tn), .ref xo, .int (nI on), .ref xk, .ref xn, .ref xb, .ref xz, .ref xm, .ref xs, .ref xp, .ref xd], ob xs 0 [.ref c1, .ref c2], aI E c1 16 ((sy x fa t p wo la b siz sm).1), aI E c2 16 ((sy x fa t p wo la b siz sm).2.1), aB E xk 32 fk, aB E xn 12 fn, aB E xb 64 ((sy x fa t p wo la b siz sm).2.2.1), ob xp 1 [.ref p1, .ref p2, .ref p3, .ref p4, .ref p5, .ref p6], aL E p1 5 ((sy x fa t p wo la b siz sm).2.2.2.1), aL E p2 5 ((sy x fa t p wo la b siz sm).2.2.2.2.1), aL E p3 5 ((sy x fa t p wo la b siz sm).2.2.2.2.2.1), aL E p4 4 ((sy x fa t p wo la b siz sm).2.2.2.2.2.2.1), aI E p5 4 ((sy x fa t p wo la b siz sm).2.2.2.2.2.2.2.1), aB E p6 17 ((sy x fa t p wo la b siz sm).2.2.2.2.2.2.2.2.1), aB E xt 800 ta, aB E xo 816 x.1, aB E xz 16 ((sy x fa t p wo la b siz sm).2.2.2.2.2.2.2.2.2.1), aB E xm 16 ((sy x fa t p wo la b siz sm).2.2.2.2.2.2.2.2.2.2)] [(2, .int (nI ((tn - 16) - j))), (0, .ref h), (1, .int (nI j))] 0 0 27 []
  refine j_aload_n hg 1 dS_open_27 rfl rfl ?_
  refine j_iload_n hg 2 dS_open_28 rfl rfl ?_
  refine j_aload_n hg 1 dS_open_29 rfl rfl ?_
  refine j_get hg (C := RX3) (T := TX3) (N := 12) inX3 0 rfl rfl 0 (by decide) m83 rfl dS_open_30 ?_
  refine j_iload_n hg 2 dS_open_33 rfl rfl ?_
  refine j_iload_n hg 0 dS_open_34 rfl rfl ?_
  refine j_callV hg (n := 4) (y := yS_sumSealed) (rm := rm_S_sumSealed) (Ws := (cT yS_sumSealed cS_sumSealed 5 none)) (As := [.int (nI j), .ref xt, .int (nI j), .int (nI ((tn - 16) - j))]) (rest := []) (wr := [aB E xo 816 x.1]) 0 rfl rfl (c_S_sumSealed_t l E h xt xo xk xn xb xz xm xs xp xd tn on c1 c2 p1 p2 p3 p4 p5 p6 fk fn ta  (sy x fa t p wo la b siz sm) j j ((tn - 16) - j) hsb hta hz (by omega) (by omega)) (gdV m249 m251 ms12 m1 m252) rfl (by decide +kernel) ⟨by decide, by decide⟩ rfl rfl (Nat.le_of_ble_eq_true rfl) ⟨by decide, by decide⟩ [0, 1, 2, 3, 4, 5, 6, 7, 8, 9, 10, 11, 12, 13, 14, 16, 17] [15] rfl rfl (by decide) (by decide) (by decide) dS_open_35 (fun _ _ => ?_)
  show J E 3 g [aB E xo 816 x.1, ob h 3 [.ref xt, .int (nI tn), .ref xo, .int (nI on), .ref xk, .ref xn, .ref xb, .ref xz, .ref xm, .ref xs, .ref xp, .ref xd], ob xs 0 [.ref c1, .ref c2], aI E c1 16 ((ssF (sy x fa t p wo la b siz sm) fk fn ta ta j j ((tn - 16) - j)).1), aI E c2 16 ((ssF (sy x fa t p wo la b siz sm) fk fn ta ta j j ((tn - 16) - j)).2.1), aB E xk 32 fk, aB E xn 12 fn, aB E xb 64 ((ssF (sy x fa t p wo la b siz sm) fk fn ta ta j j ((tn - 16) - j)).2.2.1), ob xp 1 [.ref p1, .ref p2, .ref p3, .ref p4, .ref p5, .ref p6], aL E p1 5 ((ssF (sy x fa t p wo la b siz sm) fk fn ta ta j j ((tn - 16) - j)).2.2.2.1), aL E p2 5 ((ssF (sy x fa t p wo la b siz sm) fk fn ta ta j j ((tn - 16) - j)).2.2.2.2.1), aL E p3 5 ((ssF (sy x fa t p wo la b siz sm) fk fn ta ta j j ((tn - 16) - j)).2.2.2.2.2.1), aL E p4 4 ((ssF (sy x fa t p wo la b siz sm) fk fn ta ta j j ((tn - 16) - j)).2.2.2.2.2.2.1), aI E p5 4 ((ssF (sy x fa t p wo la b siz sm) fk fn ta ta j j ((tn - 16) - j)).2.2.2.2.2.2.2.1), aB E p6 17 ((ssF (sy x fa t p wo la b siz sm) fk fn ta ta j j ((tn - 16) - j)).2.2.2.2.2.2.2.2.1), aB E xt 800 ta, aB E xz 16 ((ssF (sy x fa t p wo la b siz sm) fk fn ta ta j j ((tn - 16) - j)).2.2.2.2.2.2.2.2.2.1), aB E xm 16 ((ssF (sy x fa t p wo la b siz sm) fk fn ta ta j j ((tn - 16) - j)).2.2.2.2.2.2.2.2.2.2)] [(2, .int (nI ((tn - 16) - j))), (0, .ref h), (1, .int (nI j))] 0 0 38 []
  refine j_sub [1, 2, 3, 4, 5, 6, 7, 8, 9, 10, 11, 12, 13, 14, 15, 0, 16, 17] (ws' := [ob h 3 [.ref xt, .int (nI tn), .ref xo, .int (nI on), .ref xk, .ref xn, .ref xb, .ref xz, .ref xm, .ref xs, .ref xp, .ref xd], ob xs 0 [.ref c1, .ref c2], aI E c1 16 ((ssF (sy x fa t p wo la b siz sm) fk fn ta ta j j ((tn - 16) - j)).1), aI E c2 16 ((ssF (sy x fa t p wo la b siz sm) fk fn ta ta j j ((tn - 16) - j)).2.1), aB E xk 32 fk, aB E xn 12 fn, aB E xb 64 ((ssF (sy x fa t p wo la b siz sm) fk fn ta ta j j ((tn - 16) - j)).2.2.1), ob xp 1 [.ref p1, .ref p2, .ref p3, .ref p4, .ref p5, .ref p6], aL E p1 5 ((ssF (sy x fa t p wo la b siz sm) fk fn ta ta j j ((tn - 16) - j)).2.2.2.1), aL E p2 5 ((ssF (sy x fa t p wo la b siz sm) fk fn ta ta j j ((tn - 16) - j)).2.2.2.2.1), aL E p3 5 ((ssF (sy x fa t p wo la b siz sm) fk fn ta ta j j ((tn - 16) - j)).2.2.2.2.2.1), aL E p4 4 ((ssF (sy x fa t p wo la b siz sm) fk fn ta ta j j ((tn - 16) - j)).2.2.2.2.2.2.1), aI E p5 4 ((ssF (sy x fa t p wo la b siz sm) fk fn ta ta j j ((tn - 16) - j)).2.2.2.2.2.2.2.1), aB E p6 17 ((ssF (sy x fa t p wo la b siz sm) fk fn ta ta j j ((tn - 16) - j)).2.2.2.2.2.2.2.2.1), aB E xt 800 ta, aB E xo 816 x.1, aB E xz 16 ((ssF (sy x fa t p wo la b siz sm) fk fn ta ta j j ((tn - 16) - j)).2.2.2.2.2.2.2.2.2.1), aB E xm 16 ((ssF (sy x fa t p wo la b siz sm) fk fn ta ta j j ((tn - 16) - j)).2.2.2.2.2.2.2.2.2.2)]) rfl (by decide) ?_
  show J E 3 g [ob h 3 [.ref xt, .int (nI tn), .ref xo, .int (nI on), .ref xk, .ref xn, .ref xb, .ref xz, .ref xm, .ref xs, .ref xp, .ref xd], ob xs 0 [.ref c1, .ref c2], aI E c1 16 ((openS x fa t p wo la b siz sm fk fn ta j tn).1), aI E c2 16 ((openS x fa t p wo la b siz sm fk fn ta j tn).2.1), aB E xk 32 fk, aB E xn 12 fn, aB E xb 64 ((openS x fa t p wo la b siz sm fk fn ta j tn).2.2.1), ob xp 1 [.ref p1, .ref p2, .ref p3, .ref p4, .ref p5, .ref p6], aL E p1 5 ((openS x fa t p wo la b siz sm fk fn ta j tn).2.2.2.1), aL E p2 5 ((openS x fa t p wo la b siz sm fk fn ta j tn).2.2.2.2.1), aL E p3 5 ((openS x fa t p wo la b siz sm fk fn ta j tn).2.2.2.2.2.1), aL E p4 4 ((openS x fa t p wo la b siz sm fk fn ta j tn).2.2.2.2.2.2.1), aI E p5 4 ((openS x fa t p wo la b siz sm fk fn ta j tn).2.2.2.2.2.2.2.1), aB E p6 17 ((openS x fa t p wo la b siz sm fk fn ta j tn).2.2.2.2.2.2.2.2.1), aB E xt 800 ta, aB E xo 816 x.1, aB E xz 16 ((openS x fa t p wo la b siz sm fk fn ta j tn).2.2.2.2.2.2.2.2.2.1), aB E xm 16 ((openS x fa t p wo la b siz sm fk fn ta j tn).2.2.2.2.2.2.2.2.2.2)] [(2, .int (nI ((tn - 16) - j))), (0, .ref h), (1, .int (nI j))] 0 0 38 []
  refine j_aload_n hg 1 dS_open_38 rfl rfl ?_
  refine j_iconst hg (v := 0) dS_open_39 (by decide) ?_
  refine j_put hg (C := RX3) (T := TX3) (N := 12) (ty := .int) (ws' := [ob h 3 [.ref xt, .int 0, .ref xo, .int (nI on), .ref xk, .ref xn, .ref xb, .ref xz, .ref xm, .ref xs, .ref xp, .ref xd], ob xs 0 [.ref c1, .ref c2], aI E c1 16 ((openS x fa t p wo la b siz sm fk fn ta j tn).1), aI E c2 16 ((openS x fa t p wo la b siz sm fk fn ta j tn).2.1), aB E xk 32 fk, aB E xn 12 fn, aB E xb 64 ((openS x fa t p wo la b siz sm fk fn ta j tn).2.2.1), ob xp 1 [.ref p1, .ref p2, .ref p3, .ref p4, .ref p5, .ref p6], aL E p1 5 ((openS x fa t p wo la b siz sm fk fn ta j tn).2.2.2.1), aL E p2 5 ((openS x fa t p wo la b siz sm fk fn ta j tn).2.2.2.2.1), aL E p3 5 ((openS x fa t p wo la b siz sm fk fn ta j tn).2.2.2.2.2.1), aL E p4 4 ((openS x fa t p wo la b siz sm fk fn ta j tn).2.2.2.2.2.2.1), aI E p5 4 ((openS x fa t p wo la b siz sm fk fn ta j tn).2.2.2.2.2.2.2.1), aB E p6 17 ((openS x fa t p wo la b siz sm fk fn ta j tn).2.2.2.2.2.2.2.2.1), aB E xt 800 ta, aB E xo 816 x.1, aB E xz 16 ((openS x fa t p wo la b siz sm fk fn ta j tn).2.2.2.2.2.2.2.2.2.1), aB E xm 16 ((openS x fa t p wo la b siz sm fk fn ta j tn).2.2.2.2.2.2.2.2.2.2)]) inX3 tyX3 tyX3_ok nmX3 0 rfl rfl 1 (by decide) m84 rfl (by decide +kernel) rfl rfl (Nat.le_of_ble_eq_true rfl) rfl dS_open_40 ?_
  refine j_aload_n hg 1 dS_open_43 rfl rfl ?_
  refine j_iload_n hg 2 dS_open_44 rfl rfl ?_
  refine j_iload_n hg 0 dS_open_45 rfl rfl ?_
  refine j_iadd hg (v := nI (j + ((tn - 16) - j))) dS_open_46 (nI_add j ((tn - 16) - j)) ?_
  refine j_callV hg (n := 1) (y := yS_sumStandsAt) (rm := rm_S_sumStandsAt) (Ws := (cT yS_sumStandsAt cS_sumStandsAt 4 (some .boolean))) (As := [.int (nI (j + ((tn - 16) - j)))]) (rest := []) (wr := [ob xs 0 [.ref c1, .ref c2], aI E c1 16 ((openS x fa t p wo la b siz sm fk fn ta j tn).1), aI E c2 16 ((openS x fa t p wo la b siz sm fk fn ta j tn).2.1), aB E xk 32 fk, aB E xn 12 fn, aB E xb 64 ((openS x fa t p wo la b siz sm fk fn ta j tn).2.2.1), ob xp 1 [.ref p1, .ref p2, .ref p3, .ref p4, .ref p5, .ref p6], aL E p1 5 ((openS x fa t p wo la b siz sm fk fn ta j tn).2.2.2.1), aL E p2 5 ((openS x fa t p wo la b siz sm fk fn ta j tn).2.2.2.2.1), aL E p3 5 ((openS x fa t p wo la b siz sm fk fn ta j tn).2.2.2.2.2.1), aL E p4 4 ((openS x fa t p wo la b siz sm fk fn ta j tn).2.2.2.2.2.2.1), aI E p5 4 ((openS x fa t p wo la b siz sm fk fn ta j tn).2.2.2.2.2.2.2.1), aB E p6 17 ((openS x fa t p wo la b siz sm fk fn ta j tn).2.2.2.2.2.2.2.2.1), aB E xo 816 x.1, aB E xz 16 ((openS x fa t p wo la b siz sm fk fn ta j tn).2.2.2.2.2.2.2.2.2.1)]) 0 rfl rfl (c_S_sumStandsAt_y l E h xt xo xk xn xb xz xm xs xp xd 0 on ta ((openS x fa t p wo la b siz sm fk fn ta j tn).2.2.2.2.2.2.2.2.2.2) (j + ((tn - 16) - j)) (by omega) hd) (gdV m262 m264 ms13 m1 m265) rfl (by decide +kernel) ⟨by decide, by decide⟩ rfl rfl (Nat.le_of_ble_eq_true rfl) ⟨by decide, by decide⟩ [0, 14, 17] [1, 2, 3, 4, 5, 6, 7, 8, 9, 10, 11, 12, 13, 15, 16] rfl rfl (by decide) (by decide) (by decide) dS_open_47 (fun _ _ => ?_)
  show J E 3 g [ob xs 0 [.ref c1, .ref c2], aI E c1 16 ((openS x fa t p wo la b siz sm fk fn ta j tn).1), aI E c2 16 ((openS x fa t p wo la b siz sm fk fn ta j tn).2.1), aB E xk 32 fk, aB E xn 12 fn, aB E xb 64 ((openS x fa t p wo la b siz sm fk fn ta j tn).2.2.1), ob xp 1 [.ref p1, .ref p2, .ref p3, .ref p4, .ref p5, .ref p6], aL E p1 5 ((openS x fa t p wo la b siz sm fk fn ta j tn).2.2.2.1), aL E p2 5 ((openS x fa t p wo la b siz sm fk fn ta j tn).2.2.2.2.1), aL E p3 5 ((openS x fa t p wo la b siz sm fk fn ta j tn).2.2.2.2.2.1), aL E p4 4 ((openS x fa t p wo la b siz sm fk fn ta j tn).2.2.2.2.2.2.1), aI E p5 4 ((openS x fa t p wo la b siz sm fk fn ta j tn).2.2.2.2.2.2.2.1), aB E p6 17 ((openS x fa t p wo la b siz sm fk fn ta j tn).2.2.2.2.2.2.2.2.1), aB E xo 816 x.1, aB E xz 16 ((openS x fa t p wo la b siz sm fk fn ta j tn).2.2.2.2.2.2.2.2.2.1), ob h 3 [.ref xt, .int 0, .ref xo, .int (nI on), .ref xk, .ref xn, .ref xb, .ref xz, .ref xm, .ref xs, .ref xp, .ref xd], aB E xt 800 ta, aB E xm 16 ((openS x fa t p wo la b siz sm fk fn ta j tn).2.2.2.2.2.2.2.2.2.2)] [(2, .int (nI ((tn - 16) - j))), (0, .ref h), (1, .int (nI j))] 0 0 50 [.int 1]
  refine j_zne_t hg (tgt := 56) 1 rfl (by omega) (by omega) dS_open_50 (by decide) ?_
  refine j_sub [15, 0, 1, 2, 3, 4, 5, 6, 7, 8, 9, 10, 11, 12, 16, 13, 14, 17] (ws' := [ob h 3 [.ref xt, .int 0, .ref xo, .int (nI on), .ref xk, .ref xn, .ref xb, .ref xz, .ref xm, .ref xs, .ref xp, .ref xd], ob xs 0 [.ref c1, .ref c2], aI E c1 16 ((openS x fa t p wo la b siz sm fk fn ta j tn).1), aI E c2 16 ((openS x fa t p wo la b siz sm fk fn ta j tn).2.1), aB E xk 32 fk, aB E xn 12 fn, aB E xb 64 ((openS x fa t p wo la b siz sm fk fn ta j tn).2.2.1), ob xp 1 [.ref p1, .ref p2, .ref p3, .ref p4, .ref p5, .ref p6], aL E p1 5 ((openS x fa t p wo la b siz sm fk fn ta j tn).2.2.2.1), aL E p2 5 ((openS x fa t p wo la b siz sm fk fn ta j tn).2.2.2.2.1), aL E p3 5 ((openS x fa t p wo la b siz sm fk fn ta j tn).2.2.2.2.2.1), aL E p4 4 ((openS x fa t p wo la b siz sm fk fn ta j tn).2.2.2.2.2.2.1), aI E p5 4 ((openS x fa t p wo la b siz sm fk fn ta j tn).2.2.2.2.2.2.2.1), aB E p6 17 ((openS x fa t p wo la b siz sm fk fn ta j tn).2.2.2.2.2.2.2.2.1), aB E xt 800 ta, aB E xo 816 x.1, aB E xz 16 ((openS x fa t p wo la b siz sm fk fn ta j tn).2.2.2.2.2.2.2.2.2.1), aB E xm 16 ((openS x fa t p wo la b siz sm fk fn ta j tn).2.2.2.2.2.2.2.2.2.2)]) rfl (by decide) ?_
  show J E 3 g [ob h 3 [.ref xt, .int 0, .ref xo, .int (nI on), .ref xk, .ref xn, .ref xb, .ref xz, .ref xm, .ref xs, .ref xp, .ref xd], ob xs 0 [.ref c1, .ref c2], aI E c1 16 (((x.1, (openS x fa t p wo la b siz sm fk fn ta j tn).2.2.1, (openS x fa t p wo la b siz sm fk fn ta j tn).1, (openS x fa t p wo la b siz sm fk fn ta j tn).2.1)).2.2.1), aI E c2 16 (((x.1, (openS x fa t p wo la b siz sm fk fn ta j tn).2.2.1, (openS x fa t p wo la b siz sm fk fn ta j tn).1, (openS x fa t p wo la b siz sm fk fn ta j tn).2.1)).2.2.2), aB E xk 32 fk, aB E xn 12 fn, aB E xb 64 (((x.1, (openS x fa t p wo la b siz sm fk fn ta j tn).2.2.1, (openS x fa t p wo la b siz sm fk fn ta j tn).1, (openS x fa t p wo la b siz sm fk fn ta j tn).2.1)).2.1), ob xp 1 [.ref p1, .ref p2, .ref p3, .ref p4, .ref p5, .ref p6], aL E p1 5 ((openS x fa t p wo la b siz sm fk fn ta j tn).2.2.2.1), aL E p2 5 ((openS x fa t p wo la b siz sm fk fn ta j tn).2.2.2.2.1), aL E p3 5 ((openS x fa t p wo la b siz sm fk fn ta j tn).2.2.2.2.2.1), aL E p4 4 ((openS x fa t p wo la b siz sm fk fn ta j tn).2.2.2.2.2.2.1), aI E p5 4 ((openS x fa t p wo la b siz sm fk fn ta j tn).2.2.2.2.2.2.2.1), aB E p6 17 ((openS x fa t p wo la b siz sm fk fn ta j tn).2.2.2.2.2.2.2.2.1), aB E xt 800 ta, aB E xo 816 (((x.1, (openS x fa t p wo la b siz sm fk fn ta j tn).2.2.1, (openS x fa t p wo la b siz sm fk fn ta j tn).1, (openS x fa t p wo la b siz sm fk fn ta j tn).2.1)).1), aB E xz 16 ((openS x fa t p wo la b siz sm fk fn ta j tn).2.2.2.2.2.2.2.2.2.1), aB E xm 16 ((openS x fa t p wo la b siz sm fk fn ta j tn).2.2.2.2.2.2.2.2.2.2)] [(2, .int (nI ((tn - 16) - j))), (0, .ref h), (1, .int (nI j))] 0 0 56 []
  refine j_aload_n hg 1 dS_open_56 rfl rfl ?_
  refine j_iload_n hg 2 dS_open_57 rfl rfl ?_
  refine j_iload_n hg 0 dS_open_58 rfl rfl ?_
  refine j_callV hg (n := 2) (y := yS_streamTapeToOut) (rm := rm_S_streamTapeToOut) (Ws := (cT yS_streamTapeToOut cS_streamTapeToOut 7 none)) (As := [.int (nI j), .int (nI ((tn - 16) - j))]) (rest := []) (wr := [ob xp 1 [.ref p1, .ref p2, .ref p3, .ref p4, .ref p5, .ref p6], aL E p1 5 ((openS x fa t p wo la b siz sm fk fn ta j tn).2.2.2.1), aL E p2 5 ((openS x fa t p wo la b siz sm fk fn ta j tn).2.2.2.2.1), aL E p3 5 ((openS x fa t p wo la b siz sm fk fn ta j tn).2.2.2.2.2.1), aL E p4 4 ((openS x fa t p wo la b siz sm fk fn ta j tn).2.2.2.2.2.2.1), aI E p5 4 ((openS x fa t p wo la b siz sm fk fn ta j tn).2.2.2.2.2.2.2.1), aB E p6 17 ((openS x fa t p wo la b siz sm fk fn ta j tn).2.2.2.2.2.2.2.2.1), aB E xz 16 ((openS x fa t p wo la b siz sm fk fn ta j tn).2.2.2.2.2.2.2.2.2.1), aB E xm 16 ((openS x fa t p wo la b siz sm fk fn ta j tn).2.2.2.2.2.2.2.2.2.2)]) 0 rfl rfl (c_S_streamTapeToOut l E h xt xo xk xn xb xz xm xs xp xd 0 on c1 c2 fk fn ta ((x.1, (openS x fa t p wo la b siz sm fk fn ta j tn).2.2.1, (openS x fa t p wo la b siz sm fk fn ta j tn).1, (openS x fa t p wo la b siz sm fk fn ta j tn).2.1)) j ((tn - 16) - j) (by omega)) (gdV m244 m246 ms11 m1 m247) rfl (by decide +kernel) ⟨by decide, by decide⟩ rfl rfl (Nat.le_of_ble_eq_true rfl) ⟨by decide, by decide⟩ [0, 1, 2, 3, 4, 5, 6, 14, 15] [7, 8, 9, 10, 11, 12, 13, 16, 17] rfl rfl (by decide) (by decide) (by decide) dS_open_59 (fun _ _ => ?_)
  show J E 3 g [ob xp 1 [.ref p1, .ref p2, .ref p3, .ref p4, .ref p5, .ref p6], aL E p1 5 ((openS x fa t p wo la b siz sm fk fn ta j tn).2.2.2.1), aL E p2 5 ((openS x fa t p wo la b siz sm fk fn ta j tn).2.2.2.2.1), aL E p3 5 ((openS x fa t p wo la b siz sm fk fn ta j tn).2.2.2.2.2.1), aL E p4 4 ((openS x fa t p wo la b siz sm fk fn ta j tn).2.2.2.2.2.2.1), aI E p5 4 ((openS x fa t p wo la b siz sm fk fn ta j tn).2.2.2.2.2.2.2.1), aB E p6 17 ((openS x fa t p wo la b siz sm fk fn ta j tn).2.2.2.2.2.2.2.2.1), aB E xz 16 ((openS x fa t p wo la b siz sm fk fn ta j tn).2.2.2.2.2.2.2.2.2.1), aB E xm 16 ((openS x fa t p wo la b siz sm fk fn ta j tn).2.2.2.2.2.2.2.2.2.2), ob h 3 [.ref xt, .int 0, .ref xo, .int (nI on), .ref xk, .ref xn, .ref xb, .ref xz, .ref xm, .ref xs, .ref xp, .ref xd], ob xs 0 [.ref c1, .ref c2], aI E c1 16 ((covF ((x.1, (openS x fa t p wo la b siz sm fk fn ta j tn).2.2.1, (openS x fa t p wo la b siz sm fk fn ta j tn).1, (openS x fa t p wo la b siz sm fk fn ta j tn).2.1)) fk fn ta j ((tn - 16) - j) (((tn - 16) - j + 63) / 64)).2.2.1), aI E c2 16 ((covF ((x.1, (openS x fa t p wo la b siz sm fk fn ta j tn).2.2.1, (openS x fa t p wo la b siz sm fk fn ta j tn).1, (openS x fa t p wo la b siz sm fk fn ta j tn).2.1)) fk fn ta j ((tn - 16) - j) (((tn - 16) - j + 63) / 64)).2.2.2), aB E xk 32 fk, aB E xn 12 fn, aB E xb 64 ((covF ((x.1, (openS x fa t p wo la b siz sm fk fn ta j tn).2.2.1, (openS x fa t p wo la b siz sm fk fn ta j tn).1, (openS x fa t p wo la b siz sm fk fn ta j tn).2.1)) fk fn ta j ((tn - 16) - j) (((tn - 16) - j + 63) / 64)).2.1), aB E xt 800 ta, aB E xo 816 ((covF ((x.1, (openS x fa t p wo la b siz sm fk fn ta j tn).2.2.1, (openS x fa t p wo la b siz sm fk fn ta j tn).1, (openS x fa t p wo la b siz sm fk fn ta j tn).2.1)) fk fn ta j ((tn - 16) - j) (((tn - 16) - j + 63) / 64)).1)] [(2, .int (nI ((tn - 16) - j))), (0, .ref h), (1, .int (nI j))] 0 0 62 []
  refine j_sub [9, 10, 11, 12, 13, 14, 15, 0, 1, 2, 3, 4, 5, 6, 16, 17, 7, 8] (ws' := [ob h 3 [.ref xt, .int 0, .ref xo, .int (nI on), .ref xk, .ref xn, .ref xb, .ref xz, .ref xm, .ref xs, .ref xp, .ref xd], ob xs 0 [.ref c1, .ref c2], aI E c1 16 ((covF ((x.1, (openS x fa t p wo la b siz sm fk fn ta j tn).2.2.1, (openS x fa t p wo la b siz sm fk fn ta j tn).1, (openS x fa t p wo la b siz sm fk fn ta j tn).2.1)) fk fn ta j ((tn - 16) - j) (((tn - 16) - j + 63) / 64)).2.2.1), aI E c2 16 ((covF ((x.1, (openS x fa t p wo la b siz sm fk fn ta j tn).2.2.1, (openS x fa t p wo la b siz sm fk fn ta j tn).1, (openS x fa t p wo la b siz sm fk fn ta j tn).2.1)) fk fn ta j ((tn - 16) - j) (((tn - 16) - j + 63) / 64)).2.2.2), aB E xk 32 fk, aB E xn 12 fn, aB E xb 64 ((covF ((x.1, (openS x fa t p wo la b siz sm fk fn ta j tn).2.2.1, (openS x fa t p wo la b siz sm fk fn ta j tn).1, (openS x fa t p wo la b siz sm fk fn ta j tn).2.1)) fk fn ta j ((tn - 16) - j) (((tn - 16) - j + 63) / 64)).2.1), ob xp 1 [.ref p1, .ref p2, .ref p3, .ref p4, .ref p5, .ref p6], aL E p1 5 ((openS x fa t p wo la b siz sm fk fn ta j tn).2.2.2.1), aL E p2 5 ((openS x fa t p wo la b siz sm fk fn ta j tn).2.2.2.2.1), aL E p3 5 ((openS x fa t p wo la b siz sm fk fn ta j tn).2.2.2.2.2.1), aL E p4 4 ((openS x fa t p wo la b siz sm fk fn ta j tn).2.2.2.2.2.2.1), aI E p5 4 ((openS x fa t p wo la b siz sm fk fn ta j tn).2.2.2.2.2.2.2.1), aB E p6 17 ((openS x fa t p wo la b siz sm fk fn ta j tn).2.2.2.2.2.2.2.2.1), aB E xt 800 ta, aB E xo 816 ((covF ((x.1, (openS x fa t p wo la b siz sm fk fn ta j tn).2.2.1, (openS x fa t p wo la b siz sm fk fn ta j tn).1, (openS x fa t p wo la b siz sm fk fn ta j tn).2.1)) fk fn ta j ((tn - 16) - j) (((tn - 16) - j + 63) / 64)).1), aB E xz 16 ((openS x fa t p wo la b siz sm fk fn ta j tn).2.2.2.2.2.2.2.2.2.1), aB E xm 16 ((openS x fa t p wo la b siz sm fk fn ta j tn).2.2.2.2.2.2.2.2.2.2)]) rfl (by decide) ?_
  show J E 3 g [ob h 3 [.ref xt, .int 0, .ref xo, .int (nI on), .ref xk, .ref xn, .ref xb, .ref xz, .ref xm, .ref xs, .ref xp, .ref xd], ob xs 0 [.ref c1, .ref c2], aI E c1 16 ((openC x fa t p wo la b siz sm fk fn ta j tn).2.2.1), aI E c2 16 ((openC x fa t p wo la b siz sm fk fn ta j tn).2.2.2), aB E xk 32 fk, aB E xn 12 fn, aB E xb 64 ((openC x fa t p wo la b siz sm fk fn ta j tn).2.1), ob xp 1 [.ref p1, .ref p2, .ref p3, .ref p4, .ref p5, .ref p6], aL E p1 5 ((openS x fa t p wo la b siz sm fk fn ta j tn).2.2.2.1), aL E p2 5 ((openS x fa t p wo la b siz sm fk fn ta j tn).2.2.2.2.1), aL E p3 5 ((openS x fa t p wo la b siz sm fk fn ta j tn).2.2.2.2.2.1), aL E p4 4 ((openS x fa t p wo la b siz sm fk fn ta j tn).2.2.2.2.2.2.1), aI E p5 4 ((openS x fa t p wo la b siz sm fk fn ta j tn).2.2.2.2.2.2.2.1), aB E p6 17 ((openS x fa t p wo la b siz sm fk fn ta j tn).2.2.2.2.2.2.2.2.1), aB E xt 800 ta, aB E xo 816 ((openC x fa t p wo la b siz sm fk fn ta j tn).1), aB E xz 16 ((openS x fa t p wo la b siz sm fk fn ta j tn).2.2.2.2.2.2.2.2.2.1), aB E xm 16 ((openS x fa t p wo la b siz sm fk fn ta j tn).2.2.2.2.2.2.2.2.2.2)] [(2, .int (nI ((tn - 16) - j))), (0, .ref h), (1, .int (nI j))] 0 0 62 []
  refine j_aload_n hg 1 dS_open_62 rfl rfl ?_
  refine j_iload_n hg 0 dS_open_63 rfl rfl ?_
  refine j_put hg (C := RX3) (T := TX3) (N := 12) (ty := .int) (ws' := [ob h 3 [.ref xt, .int 0, .ref xo, .int (nI ((tn - 16) - j)), .ref xk, .ref xn, .ref xb, .ref xz, .ref xm, .ref xs, .ref xp, .ref xd], ob xs 0 [.ref c1, .ref c2], aI E c1 16 ((openC x fa t p wo la b siz sm fk fn ta j tn).2.2.1), aI E c2 16 ((openC x fa t p wo la b siz sm fk fn ta j tn).2.2.2), aB E xk 32 fk, aB E xn 12 fn, aB E xb 64 ((openC x fa t p wo la b siz sm fk fn ta j tn).2.1), ob xp 1 [.ref p1, .ref p2, .ref p3, .ref p4, .ref p5, .ref p6], aL E p1 5 ((openS x fa t p wo la b siz sm fk fn ta j tn).2.2.2.1), aL E p2 5 ((openS x fa t p wo la b siz sm fk fn ta j tn).2.2.2.2.1), aL E p3 5 ((openS x fa t p wo la b siz sm fk fn ta j tn).2.2.2.2.2.1), aL E p4 4 ((openS x fa t p wo la b siz sm fk fn ta j tn).2.2.2.2.2.2.1), aI E p5 4 ((openS x fa t p wo la b siz sm fk fn ta j tn).2.2.2.2.2.2.2.1), aB E p6 17 ((openS x fa t p wo la b siz sm fk fn ta j tn).2.2.2.2.2.2.2.2.1), aB E xt 800 ta, aB E xo 816 ((openC x fa t p wo la b siz sm fk fn ta j tn).1), aB E xz 16 ((openS x fa t p wo la b siz sm fk fn ta j tn).2.2.2.2.2.2.2.2.2.1), aB E xm 16 ((openS x fa t p wo la b siz sm fk fn ta j tn).2.2.2.2.2.2.2.2.2.2)]) inX3 tyX3 tyX3_ok nmX3 0 rfl rfl 3 (by decide) m86 rfl (by decide +kernel) rfl rfl (Nat.le_of_ble_eq_true rfl) rfl dS_open_64 ?_
  refine j_aload_n hg 1 dS_open_67 rfl rfl ?_
  refine j_get hg (C := RX3) (T := TX3) (N := 12) inX3 0 rfl rfl 3 (by decide) m86 rfl dS_open_68 ?_
  exact j_iret hg hR rfl () trivial rfl [0, 1, 2, 3, 4, 5, 6, 7, 8, 9, 10, 11, 12, 13, 14, 15, 16, 17] rfl (by decide) (by decide) (by decide) dS_open_71

def rm_S_init : Room := { frames := 2, cells := 22, slots := 1986, locals := 32 }
set_option maxHeartbeats 1000000 in
set_option maxRecDepth 100000 in
theorem c_S_init (l : Launch) (E : Ev) (h : Nat) : MC E l yS_init (cT yS_init cS_init 1 none) rm_S_init [.ref h] [ob h 3 [.null, .int 0, .null, .int 0, .null, .null, .null, .null, .null, .null, .null, .null]] (Nat × Nat × Nat × Nat × Nat × Nat × Nat × Nat × Nat × Nat × Nat × Nat × Nat × Nat × Nat × Nat × Nat × Nat × Nat × Nat × Nat × Nat) (fun _ => True) (fun u => none) (fun u => [ob h 3 [.ref u.1, .int 0, .ref u.2.1, .int 0, .ref u.2.2.1, .ref u.2.2.2.1, .ref u.2.2.2.2.1, .ref u.2.2.2.2.2.1, .ref u.2.2.2.2.2.2.1, .ref u.2.2.2.2.2.2.2.1, .ref u.2.2.2.2.2.2.2.2.2.2.1, .ref u.2.2.2.2.2.2.2.2.2.2.2.2.2.2.2.2.2.1], aB E u.1 800 (fun _ => 0), aB E u.2.1 816 (fun _ => 0), aB E u.2.2.1 32 (fun _ => 0), aB E u.2.2.2.1 12 (fun _ => 0), aB E u.2.2.2.2.1 64 (fun _ => 0), aB E u.2.2.2.2.2.1 16 (fun _ => 0), aB E u.2.2.2.2.2.2.1 16 (fun _ => 0), ob u.2.2.2.2.2.2.2.1 0 [.ref u.2.2.2.2.2.2.2.2.1, .ref u.2.2.2.2.2.2.2.2.2.1], aI E u.2.2.2.2.2.2.2.2.1 16 (fun _ => 0), aI E u.2.2.2.2.2.2.2.2.2.1 16 (fun _ => 0), ob u.2.2.2.2.2.2.2.2.2.2.1 1 [.ref u.2.2.2.2.2.2.2.2.2.2.2.1, .ref u.2.2.2.2.2.2.2.2.2.2.2.2.1, .ref u.2.2.2.2.2.2.2.2.2.2.2.2.2.1, .ref u.2.2.2.2.2.2.2.2.2.2.2.2.2.2.1, .ref u.2.2.2.2.2.2.2.2.2.2.2.2.2.2.2.1, .ref u.2.2.2.2.2.2.2.2.2.2.2.2.2.2.2.2.1], aL E u.2.2.2.2.2.2.2.2.2.2.2.1 5 (fun _ => 0), aL E u.2.2.2.2.2.2.2.2.2.2.2.2.1 5 (fun _ => 0), aL E u.2.2.2.2.2.2.2.2.2.2.2.2.2.1 5 (fun _ => 0), aL E u.2.2.2.2.2.2.2.2.2.2.2.2.2.2.1 4 (fun _ => 0), aI E u.2.2.2.2.2.2.2.2.2.2.2.2.2.2.2.1 4 (fun _ => 0), aB E u.2.2.2.2.2.2.2.2.2.2.2.2.2.2.2.2.1 17 (fun _ => 0), ob u.2.2.2.2.2.2.2.2.2.2.2.2.2.2.2.2.2.1 2 [.ref u.2.2.2.2.2.2.2.2.2.2.2.2.2.2.2.2.2.2.1, .ref u.2.2.2.2.2.2.2.2.2.2.2.2.2.2.2.2.2.2.2.1, .ref u.2.2.2.2.2.2.2.2.2.2.2.2.2.2.2.2.2.2.2.2.1, .ref u.2.2.2.2.2.2.2.2.2.2.2.2.2.2.2.2.2.2.2.2.2, .int 0, .int 0], aI E u.2.2.2.2.2.2.2.2.2.2.2.2.2.2.2.2.2.2.1 8 (fun _ => 0), aI E u.2.2.2.2.2.2.2.2.2.2.2.2.2.2.2.2.2.2.2.1 64 (fun _ => 0), aI E u.2.2.2.2.2.2.2.2.2.2.2.2.2.2.2.2.2.2.2.2.1 8 (fun _ => 0), aB E u.2.2.2.2.2.2.2.2.2.2.2.2.2.2.2.2.2.2.2.2.2 64 (fun _ => 0)]) := by
  refine MC.of (cc := cS_init) (nL := 1) (ret := none) (by decide) rfl cT_in (Nat.le_of_ble_eq_true rfl) (fun g hg hR => ?_)
  show J E 1 g [ob h 3 [.null, .int 0, .null, .int 0, .null, .null, .null, .null, .null, .null, .null, .null]] [(0, .ref h)] 0 0 0 []
  refine j_aload_n hg 0 dS_init_0 rfl rfl ?_
  refine j_objInit hg m14 m15 m16 dS_init_1 (Nat.le_of_ble_eq_true rfl) (Nat.le_of_ble_eq_true rfl) ?_
  refine j_aload_n hg 0 dS_init_4 rfl rfl ?_
  refine j_sipush hg (v := 800) dS_init_5 (by decide) ?_
  refine j_newB hg 800 m30 rfl (by decide) (by decide) (by decide) dS_init_8 (fun q1 => ?_)
  show J E 1 g [ob h 3 [.null, .int 0, .null, .int 0, .null, .null, .null, .null, .null, .null, .null, .null], aB E q1 800 (fun _ => 0)] [(0, .ref h)] 1 800 10 [.ref q1, .ref h]
  refine j_putF hg hR (C := RX3) (T := TX3) (N := 12) (ty := (.array .byte)) (ws' := [ob h 3 [.ref q1, .int 0, .null, .int 0, .null, .null, .null, .null, .null, .null, .null, .null], aB E q1 800 (fun _ => 0)]) inX3 tyX3 tyX3_ok nmX3 0 rfl rfl 0 (by decide) m83 rfl rfl (by decide +kernel) rfl rfl (Nat.le_of_ble_eq_true rfl) rfl dS_init_10 ?_
  refine j_aload_n hg 0 dS_init_13 rfl rfl ?_
  refine j_iconst hg (v := 0) dS_init_14 (by decide) ?_
  refine j_put hg (C := RX3) (T := TX3) (N := 12) (ty := .int) (ws' := [ob h 3 [.ref q1, .int 0, .null, .int 0, .null, .null, .null, .null, .null, .null, .null, .null], aB E q1 800 (fun _ => 0)]) inX3 tyX3 tyX3_ok nmX3 0 rfl rfl 1 (by decide) m84 rfl (by decide +kernel) rfl rfl (Nat.le_of_ble_eq_true rfl) rfl dS_init_15 ?_
  refine j_aload_n hg 0 dS_init_18 rfl rfl ?_
  refine j_sipush hg (v := 816) dS_init_19 (by decide) ?_
  refine j_newB hg 816 m30 rfl (by decide) (by decide) (by decide) dS_init_22 (fun q2 => ?_)
  show J E 1 g [ob h 3 [.ref q1, .int 0, .null, .int 0, .null, .null, .null, .null, .null, .null, .null, .null], aB E q1 800 (fun _ => 0), aB E q2 816 (fun _ => 0)] [(0, .ref h)] 2 1616 24 [.ref q2, .ref h]
  refine j_putF hg hR (C := RX3) (T := TX3) (N := 12) (ty := (.array .byte)) (ws' := [ob h 3 [.ref q1, .int 0, .ref q2, .int 0, .null, .null, .null, .null, .null, .null, .null, .null], aB E q1 800 (fun _ => 0), aB E q2 816 (fun _ => 0)]) inX3 tyX3 tyX3_ok nmX3 0 rfl rfl 2 (by decide) m85 rfl rfl (by decide +kernel) rfl rfl (Nat.le_of_ble_eq_true rfl) rfl dS_init_24 ?_
  refine j_aload_n hg 0 dS_init_27 rfl rfl ?_
  refine j_iconst hg (v := 0) dS_init_28 (by decide) ?_
  refine j_put hg (C := RX3) (T := TX3) (N := 12) (ty := .int) (ws' := [ob h 3 [.ref q1, .int 0, .ref q2, .int 0, .null, .null, .null, .null, .null, .null, .null, .null], aB E q1 800 (fun _ => 0), aB E q2 816 (fun _ => 0)]) inX3 tyX3 tyX3_ok nmX3 0 rfl rfl 3 (by decide) m86 rfl (by decide +kernel) rfl rfl (Nat.le_of_ble_eq_true rfl) rfl dS_init_29 ?_
  refine j_aload_n hg 0 dS_init_32 rfl rfl ?_
  refine j_bipush hg (v := 32) dS_init_33 (by decide) ?_
  refine j_newB hg 32 m30 rfl (by decide) (by decide) (by decide) dS_init_35 (fun q3 => ?_)
  show J E 1 g [ob h 3 [.ref q1, .int 0, .ref q2, .int 0, .null, .null, .null, .null, .null, .null, .null, .null], aB E q1 800 (fun _ => 0), aB E q2 816 (fun _ => 0), aB E q3 32 (fun _ => 0)] [(0, .ref h)] 3 1648 37 [.ref q3, .ref h]
  refine j_putF hg hR (C := RX3) (T := TX3) (N := 12) (ty := (.array .byte)) (ws' := [ob h 3 [.ref q1, .int 0, .ref q2, .int 0, .ref q3, .null, .null, .null, .null, .null, .null, .null], aB E q1 800 (fun _ => 0), aB E q2 816 (fun _ => 0), aB E q3 32 (fun _ => 0)]) inX3 tyX3 tyX3_ok nmX3 0 rfl rfl 4 (by decide) m87 rfl rfl (by decide +kernel) rfl rfl (Nat.le_of_ble_eq_true rfl) rfl dS_init_37 ?_
  refine j_aload_n hg 0 dS_init_40 rfl rfl ?_
  refine j_bipush hg (v := 12) dS_init_41 (by decide) ?_
  refine j_newB hg 12 m30 rfl (by decide) (by decide) (by decide) dS_init_43 (fun q4 => ?_)
  show J E 1 g [ob h 3 [.ref q1, .int 0, .ref q2, .int 0, .ref q3, .null, .null, .null, .null, .null, .null, .null], aB E q1 800 (fun _ => 0), aB E q2 816 (fun _ => 0), aB E q3 32 (fun _ => 0), aB E q4 12 (fun _ => 0)] [(0, .ref h)] 4 1660 45 [.ref q4, .ref h]
  refine j_putF hg hR (C := RX3) (T := TX3) (N := 12) (ty := (.array .byte)) (ws' := [ob h 3 [.ref q1, .int 0, .ref q2, .int 0, .ref q3, .ref q4, .null, .null, .null, .null, .null, .null], aB E q1 800 (fun _ => 0), aB E q2 816 (fun _ => 0), aB E q3 32 (fun _ => 0), aB E q4 12 (fun _ => 0)]) inX3 tyX3 tyX3_ok nmX3 0 rfl rfl 5 (by decide) m88 rfl rfl (by decide +kernel) rfl rfl (Nat.le_of_ble_eq_true rfl) rfl dS_init_45 ?_
  refine j_aload_n hg 0 dS_init_48 rfl rfl ?_
  refine j_bipush hg (v := 64) dS_init_49 (by decide) ?_
  refine j_newB hg 64 m30 rfl (by decide) (by decide) (by decide) dS_init_51 (fun q5 => ?_)
  show J E 1 g [ob h 3 [.ref q1, .int 0, .ref q2, .int 0, .ref q3, .ref q4, .null, .null, .null, .null, .null, .null], aB E q1 800 (fun _ => 0), aB E q2 816 (fun _ => 0), aB E q3 32 (fun _ => 0), aB E q4 12 (fun _ => 0), aB E q5 64 (fun _ => 0)] [(0, .ref h)] 5 1724 53 [.ref q5, .ref h]
  refine j_putF hg hR (C := RX3) (T := TX3) (N := 12) (ty := (.array .byte)) (ws' := [ob h 3 [.ref q1, .int 0, .ref q2, .int 0, .ref q3, .ref q4, .ref q5, .null, .null, .null, .null, .null], aB E q1 800 (fun _ => 0), aB E q2 816 (fun _ => 0), aB E q3 32 (fun _ => 0), aB E q4 12 (fun _ => 0), aB E q5 64 (fun _ => 0)]) inX3 tyX3 tyX3_ok nmX3 0 rfl rfl 6 (by decide) m89 rfl rfl (by decide +kernel) rfl rfl (Nat.le_of_ble_eq_true rfl) rfl dS_init_53 ?_
  refine j_aload_n hg 0 dS_init_56 rfl rfl ?_
  refine j_bipush hg (v := 16) dS_init_57 (by decide) ?_
  refine j_newB hg 16 m30 rfl (by decide) (by decide) (by decide) dS_init_59 (fun q6 => ?_)
  show J E 1 g [ob h 3 [.ref q1, .int 0, .ref q2, .int 0, .ref q3, .ref q4, .ref q5, .null, .null, .null, .null, .null], aB E q1 800 (fun _ => 0), aB E q2 816 (fun _ => 0), aB E q3 32 (fun _ => 0), aB E q4 12 (fun _ => 0), aB E q5 64 (fun _ => 0), aB E q6 16 (fun _ => 0)] [(0, .ref h)] 6 1740 61 [.ref q6, .ref h]
  refine j_putF hg hR (C := RX3) (T := TX3) (N := 12) (ty := (.array .byte)) (ws' := [ob h 3 [.ref q1, .int 0, .ref q2, .int 0, .ref q3, .ref q4, .ref q5, .ref q6, .null, .null, .null, .null], aB E q1 800 (fun _ => 0), aB E q2 816 (fun _ => 0), aB E q3 32 (fun _ => 0), aB E q4 12 (fun _ => 0), aB E q5 64 (fun _ => 0), aB E q6 16 (fun _ => 0)]) inX3 tyX3 tyX3_ok nmX3 0 rfl rfl 7 (by decide) m90 rfl rfl (by decide +kernel) rfl rfl (Nat.le_of_ble_eq_true rfl) rfl dS_init_61 ?_
  refine j_aload_n hg 0 dS_init_64 rfl rfl ?_
  refine j_bipush hg (v := 16) dS_init_65 (by decide) ?_
  refine j_newB hg 16 m30 rfl (by decide) (by decide) (by decide) dS_init_67 (fun q7 => ?_)
  show J E 1 g [ob h 3 [.ref q1, .int 0, .ref q2, .int 0, .ref q3, .ref q4, .ref q5, .ref q6, .null, .null, .null, .null], aB E q1 800 (fun _ => 0), aB E q2 816 (fun _ => 0), aB E q3 32 (fun _ => 0), aB E q4 12 (fun _ => 0), aB E q5 64 (fun _ => 0), aB E q6 16 (fun _ => 0), aB E q7 16 (fun _ => 0)] [(0, .ref h)] 7 1756 69 [.ref q7, .ref h]
  refine j_putF hg hR (C := RX3) (T := TX3) (N := 12) (ty := (.array .byte)) (ws' := [ob h 3 [.ref q1, .int 0, .ref q2, .int 0, .ref q3, .ref q4, .ref q5, .ref q6, .ref q7, .null, .null, .null], aB E q1 800 (fun _ => 0), aB E q2 816 (fun _ => 0), aB E q3 32 (fun _ => 0), aB E q4 12 (fun _ => 0), aB E q5 64 (fun _ => 0), aB E q6 16 (fun _ => 0), aB E q7 16 (fun _ => 0)]) inX3 tyX3 tyX3_ok nmX3 0 rfl rfl 8 (by decide) m91 rfl rfl (by decide +kernel) rfl rfl (Nat.le_of_ble_eq_true rfl) rfl dS_init_69 ?_
  refine j_aload_n hg 0 dS_init_72 rfl rfl ?_
  refine j_new hg (ci := 0) (C := RX0) (T := TX0) (N := 2) (fs := [.null, .null]) inX0 tyX0 tyX0_ok m17 m18 m2 rfl (by decide +kernel) (by decide) (by decide) dS_init_73 (fun q8 => ?_)
  show J E 1 g [ob h 3 [.ref q1, .int 0, .ref q2, .int 0, .ref q3, .ref q4, .ref q5, .ref q6, .ref q7, .null, .null, .null], aB E q1 800 (fun _ => 0), aB E q2 816 (fun _ => 0), aB E q3 32 (fun _ => 0), aB E q4 12 (fun _ => 0), aB E q5 64 (fun _ => 0), aB E q6 16 (fun _ => 0), aB E q7 16 (fun _ => 0), ob q8 0 [.null, .null]] [(0, .ref h)] 8 1758 76 [.ref q8, .ref h]
  refine j_dup hg dS_init_76 rfl ?_
  refine j_callI hg (ret := none) (n := 0) (y := yC_init) (rm := rm_C_init) (Ws := (cT yC_init cC_init 1 none)) (As := []) (rest := [.ref q8, .ref h]) (wr := [ob h 3 [.ref q1, .int 0, .ref q2, .int 0, .ref q3, .ref q4, .ref q5, .ref q6, .ref q7, .null, .null, .null], aB E q1 800 (fun _ => 0), aB E q2 816 (fun _ => 0), aB E q3 32 (fun _ => 0), aB E q4 12 (fun _ => 0), aB E q5 64 (fun _ => 0), aB E q6 16 (fun _ => 0), aB E q7 16 (fun _ => 0)]) (c_C_init l E q8) (gdT m21) rfl m2 m19 m20 rfl (by decide +kernel) ⟨by decide, by decide⟩ rfl rfl (Nat.le_of_ble_eq_true rfl) ⟨by decide, by decide⟩ [8] [0, 1, 2, 3, 4, 5, 6, 7] rfl rfl (by decide) (by decide) (by decide) dS_init_77 (fun u _ => ?_)
  show J E 1 g [ob h 3 [.ref q1, .int 0, .ref q2, .int 0, .ref q3, .ref q4, .ref q5, .ref q6, .ref q7, .null, .null, .null], aB E q1 800 (fun _ => 0), aB E q2 816 (fun _ => 0), aB E q3 32 (fun _ => 0), aB E q4 12 (fun _ => 0), aB E q5 64 (fun _ => 0), aB E q6 16 (fun _ => 0), aB E q7 16 (fun _ => 0), ob q8 0 [.ref u.1, .ref u.2], aI E u.1 16 (fun _ => 0), aI E u.2 16 (fun _ => 0)] [(0, .ref h)] 10 1790 80 [.ref q8, .ref h]
  refine j_putF hg hR (C := RX3) (T := TX3) (N := 12) (ty := (.object "StreamSeal$ChaCha20")) (ws' := [ob h 3 [.ref q1, .int 0, .ref q2, .int 0, .ref q3, .ref q4, .ref q5, .ref q6, .ref q7, .ref q8, .null, .null], aB E q1 800 (fun _ => 0), aB E q2 816 (fun _ => 0), aB E q3 32 (fun _ => 0), aB E q4 12 (fun _ => 0), aB E q5 64 (fun _ => 0), aB E q6 16 (fun _ => 0), aB E q7 16 (fun _ => 0), ob q8 0 [.ref u.1, .ref u.2], aI E u.1 16 (fun _ => 0), aI E u.2 16 (fun _ => 0)]) inX3 tyX3 tyX3_ok nmX3 0 rfl rfl 9 (by decide) m92 rfl rfl (by decide +kernel) rfl rfl (Nat.le_of_ble_eq_true rfl) rfl dS_init_80 ?_
  refine j_aload_n hg 0 dS_init_83 rfl rfl ?_
  refine j_new hg (ci := 1) (C := RX1) (T := TX1) (N := 6) (fs := [.null, .null, .null, .null, .null, .null]) inX1 tyX1 tyX1_ok m32 m33 m3 rfl (by decide +kernel) (by decide) (by decide) dS_init_84 (fun q9 => ?_)
  show J E 1 g [ob h 3 [.ref q1, .int 0, .ref q2, .int 0, .ref q3, .ref q4, .ref q5, .ref q6, .ref q7, .ref q8, .null, .null], aB E q1 800 (fun _ => 0), aB E q2 816 (fun _ => 0), aB E q3 32 (fun _ => 0), aB E q4 12 (fun _ => 0), aB E q5 64 (fun _ => 0), aB E q6 16 (fun _ => 0), aB E q7 16 (fun _ => 0), ob q8 0 [.ref u.1, .ref u.2], aI E u.1 16 (fun _ => 0), aI E u.2 16 (fun _ => 0), ob q9 1 [.null, .null, .null, .null, .null, .null]] [(0, .ref h)] 11 1796 87 [.ref q9, .ref h]
  refine j_dup hg dS_init_87 rfl ?_
  refine j_callI hg (ret := none) (n := 0) (y := yP_init) (rm := rm_P_init) (Ws := (cT yP_init cP_init 1 none)) (As := []) (rest := [.ref q9, .ref h]) (wr := [ob h 3 [.ref q1, .int 0, .ref q2, .int 0, .ref q3, .ref q4, .ref q5, .ref q6, .ref q7, .ref q8, .null, .null], aB E q1 800 (fun _ => 0), aB E q2 816 (fun _ => 0), aB E q3 32 (fun _ => 0), aB E q4 12 (fun _ => 0), aB E q5 64 (fun _ => 0), aB E q6 16 (fun _ => 0), aB E q7 16 (fun _ => 0), ob q8 0 [.ref u.1, .ref u.2], aI E u.1 16 (fun _ => 0), aI E u.2 16 (fun _ => 0)]) (c_P_init l E q9) (gdT m36) rfl m3 m34 m35 rfl (by decide +kernel) ⟨by decide, by decide⟩ rfl rfl (Nat.le_of_ble_eq_true rfl) ⟨by decide, by decide⟩ [11] [0, 1, 2, 3, 4, 5, 6, 7, 8, 9, 10] rfl rfl (by decide) (by decide) (by decide) dS_init_88 (fun u10_ _ => ?_)
  show J E 1 g [ob h 3 [.ref q1, .int 0, .ref q2, .int 0, .ref q3, .ref q4, .ref q5, .ref q6, .ref q7, .ref q8, .null, .null], aB E q1 800 (fun _ => 0), aB E q2 816 (fun _ => 0), aB E q3 32 (fun _ => 0), aB E q4 12 (fun _ => 0), aB E q5 64 (fun _ => 0), aB E q6 16 (fun _ => 0), aB E q7 16 (fun _ => 0), ob q8 0 [.ref u.1, .ref u.2], aI E u.1 16 (fun _ => 0), aI E u.2 16 (fun _ => 0), ob q9 1 [.ref u10_.1, .ref u10_.2.1, .ref u10_.2.2.1, .ref u10_.2.2.2.1, .ref u10_.2.2.2.2.1, .ref u10_.2.2.2.2.2], aL E u10_.1 5 (fun _ => 0), aL E u10_.2.1 5 (fun _ => 0), aL E u10_.2.2.1 5 (fun _ => 0), aL E u10_.2.2.2.1 4 (fun _ => 0), aI E u10_.2.2.2.2.1 4 (fun _ => 0), aB E u10_.2.2.2.2.2 17 (fun _ => 0)] [(0, .ref h)] 17 1836 91 [.ref q9, .ref h]
  refine j_putF hg hR (C := RX3) (T := TX3) (N := 12) (ty := (.object "StreamSeal$Poly1305")) (ws' := [ob h 3 [.ref q1, .int 0, .ref q2, .int 0, .ref q3, .ref q4, .ref q5, .ref q6, .ref q7, .ref q8, .ref q9, .null], aB E q1 800 (fun _ => 0), aB E q2 816 (fun _ => 0), aB E q3 32 (fun _ => 0), aB E q4 12 (fun _ => 0), aB E q5 64 (fun _ => 0), aB E q6 16 (fun _ => 0), aB E q7 16 (fun _ => 0), ob q8 0 [.ref u.1, .ref u.2], aI E u.1 16 (fun _ => 0), aI E u.2 16 (fun _ => 0), ob q9 1 [.ref u10_.1, .ref u10_.2.1, .ref u10_.2.2.1, .ref u10_.2.2.2.1, .ref u10_.2.2.2.2.1, .ref u10_.2.2.2.2.2], aL E u10_.1 5 (fun _ => 0), aL E u10_.2.1 5 (fun _ => 0), aL E u10_.2.2.1 5 (fun _ => 0), aL E u10_.2.2.2.1 4 (fun _ => 0), aI E u10_.2.2.2.2.1 4 (fun _ => 0), aB E u10_.2.2.2.2.2 17 (fun _ => 0)]) inX3 tyX3 tyX3_ok nmX3 0 rfl rfl 10 (by decide) m93 rfl rfl (by decide +kernel) rfl rfl (Nat.le_of_ble_eq_true rfl) rfl dS_init_91 ?_
  refine j_aload_n hg 0 dS_init_94 rfl rfl ?_
  refine j_new hg (ci := 2) (C := RX2) (T := TX2) (N := 6) (fs := [.null, .null, .null, .null, .int 0, .int 0]) inX2 tyX2 tyX2_ok m58 m59 m4 rfl (by decide +kernel) (by decide) (by decide) dS_init_95 (fun q11 => ?_)
  show J E 1 g [ob h 3 [.ref q1, .int 0, .ref q2, .int 0, .ref q3, .ref q4, .ref q5, .ref q6, .ref q7, .ref q8, .ref q9, .null], aB E q1 800 (fun _ => 0), aB E q2 816 (fun _ => 0), aB E q3 32 (fun _ => 0), aB E q4 12 (fun _ => 0), aB E q5 64 (fun _ => 0), aB E q6 16 (fun _ => 0), aB E q7 16 (fun _ => 0), ob q8 0 [.ref u.1, .ref u.2], aI E u.1 16 (fun _ => 0), aI E u.2 16 (fun _ => 0), ob q9 1 [.ref u10_.1, .ref u10_.2.1, .ref u10_.2.2.1, .ref u10_.2.2.2.1, .ref u10_.2.2.2.2.1, .ref u10_.2.2.2.2.2], aL E u10_.1 5 (fun _ => 0), aL E u10_.2.1 5 (fun _ => 0), aL E u10_.2.2.1 5 (fun _ => 0), aL E u10_.2.2.2.1 4 (fun _ => 0), aI E u10_.2.2.2.2.1 4 (fun _ => 0), aB E u10_.2.2.2.2.2 17 (fun _ => 0), ob q11 2 [.null, .null, .null, .null, .int 0, .int 0]] [(0, .ref h)] 18 1842 98 [.ref q11, .ref h]
  refine j_dup hg dS_init_98 rfl ?_
  refine j_callI hg (ret := none) (n := 0) (y := yH_init) (rm := rm_H_init) (Ws := (cT yH_init cH_init 1 none)) (As := []) (rest := [.ref q11, .ref h]) (wr := [ob h 3 [.ref q1, .int 0, .ref q2, .int 0, .ref q3, .ref q4, .ref q5, .ref q6, .ref q7, .ref q8, .ref q9, .null], aB E q1 800 (fun _ => 0), aB E q2 816 (fun _ => 0), aB E q3 32 (fun _ => 0), aB E q4 12 (fun _ => 0), aB E q5 64 (fun _ => 0), aB E q6 16 (fun _ => 0), aB E q7 16 (fun _ => 0), ob q8 0 [.ref u.1, .ref u.2], aI E u.1 16 (fun _ => 0), aI E u.2 16 (fun _ => 0), ob q9 1 [.ref u10_.1, .ref u10_.2.1, .ref u10_.2.2.1, .ref u10_.2.2.2.1, .ref u10_.2.2.2.2.1, .ref u10_.2.2.2.2.2], aL E u10_.1 5 (fun _ => 0), aL E u10_.2.1 5 (fun _ => 0), aL E u10_.2.2.1 5 (fun _ => 0), aL E u10_.2.2.2.1 4 (fun _ => 0), aI E u10_.2.2.2.2.1 4 (fun _ => 0), aB E u10_.2.2.2.2.2 17 (fun _ => 0)]) (c_H_init l E q11) (gdT m62) rfl m4 m60 m61 rfl (by decide +kernel) ⟨by decide, by decide⟩ rfl rfl (Nat.le_of_ble_eq_true rfl) ⟨by decide, by decide⟩ [18] [0, 1, 2, 3, 4, 5, 6, 7, 8, 9, 10, 11, 12, 13, 14, 15, 16, 17] rfl rfl (by decide) (by decide) (by decide) dS_init_99 (fun u12_ _ => ?_)
  show J E 1 g [ob h 3 [.ref q1, .int 0, .ref q2, .int 0, .ref q3, .ref q4, .ref q5, .ref q6, .ref q7, .ref q8, .ref q9, .null], aB E q1 800 (fun _ => 0), aB E q2 816 (fun _ => 0), aB E q3 32 (fun _ => 0), aB E q4 12 (fun _ => 0), aB E q5 64 (fun _ => 0), aB E q6 16 (fun _ => 0), aB E q7 16 (fun _ => 0), ob q8 0 [.ref u.1, .ref u.2], aI E u.1 16 (fun _ => 0), aI E u.2 16 (fun _ => 0), ob q9 1 [.ref u10_.1, .ref u10_.2.1, .ref u10_.2.2.1, .ref u10_.2.2.2.1, .ref u10_.2.2.2.2.1, .ref u10_.2.2.2.2.2], aL E u10_.1 5 (fun _ => 0), aL E u10_.2.1 5 (fun _ => 0), aL E u10_.2.2.1 5 (fun _ => 0), aL E u10_.2.2.2.1 4 (fun _ => 0), aI E u10_.2.2.2.2.1 4 (fun _ => 0), aB E u10_.2.2.2.2.2 17 (fun _ => 0), ob q11 2 [.ref u12_.1, .ref u12_.2.1, .ref u12_.2.2.1, .ref u12_.2.2.2, .int 0, .int 0], aI E u12_.1 8 (fun _ => 0), aI E u12_.2.1 64 (fun _ => 0), aI E u12_.2.2.1 8 (fun _ => 0), aB E u12_.2.2.2 64 (fun _ => 0)] [(0, .ref h)] 22 1986 102 [.ref q11, .ref h]
  refine j_putF hg hR (C := RX3) (T := TX3) (N := 12) (ty := (.object "StreamSeal$Sha256")) (ws' := [ob h 3 [.ref q1, .int 0, .ref q2, .int 0, .ref q3, .ref q4, .ref q5, .ref q6, .ref q7, .ref q8, .ref q9, .ref q11], aB E q1 800 (fun _ => 0), aB E q2 816 (fun _ => 0), aB E q3 32 (fun _ => 0), aB E q4 12 (fun _ => 0), aB E q5 64 (fun _ => 0), aB E q6 16 (fun _ => 0), aB E q7 16 (fun _ => 0), ob q8 0 [.ref u.1, .ref u.2], aI E u.1 16 (fun _ => 0), aI E u.2 16 (fun _ => 0), ob q9 1 [.ref u10_.1, .ref u10_.2.1, .ref u10_.2.2.1, .ref u10_.2.2.2.1, .ref u10_.2.2.2.2.1, .ref u10_.2.2.2.2.2], aL E u10_.1 5 (fun _ => 0), aL E u10_.2.1 5 (fun _ => 0), aL E u10_.2.2.1 5 (fun _ => 0), aL E u10_.2.2.2.1 4 (fun _ => 0), aI E u10_.2.2.2.2.1 4 (fun _ => 0), aB E u10_.2.2.2.2.2 17 (fun _ => 0), ob q11 2 [.ref u12_.1, .ref u12_.2.1, .ref u12_.2.2.1, .ref u12_.2.2.2, .int 0, .int 0], aI E u12_.1 8 (fun _ => 0), aI E u12_.2.1 64 (fun _ => 0), aI E u12_.2.2.1 8 (fun _ => 0), aB E u12_.2.2.2 64 (fun _ => 0)]) inX3 tyX3 tyX3_ok nmX3 0 rfl rfl 11 (by decide) m94 rfl rfl (by decide +kernel) rfl rfl (Nat.le_of_ble_eq_true rfl) rfl dS_init_102 ?_
  exact j_vret hg hR (q1, q2, q3, q4, q5, q6, q7, q8, u.1, u.2, q9, u10_.1, u10_.2.1, u10_.2.2.1, u10_.2.2.2.1, u10_.2.2.2.2.1, u10_.2.2.2.2.2, q11, u12_.1, u12_.2.1, u12_.2.2.1, u12_.2.2.2) trivial rfl [0, 1, 2, 3, 4, 5, 6, 7, 8, 9, 10, 11, 12, 13, 14, 15, 16, 17, 18, 19, 20, 21, 22] rfl (by decide) (by decide) (by decide) dS_init_105
end
