section
-- ===== PART A: goes FIRST, ahead of the names: the tables' words, and 'selects' of the private methods out of them =====
/-- a private method of a class that the tables say can be made, by its rows of tables_1 -/
def lw_okq (q : MethodName × Nat) : Prop := (q.1.cls ≠ "java/lang/invoke/MethodHandle" ∧ q.1.cls ≠ "java/lang/invoke/VarHandle") ∧ Cond.instantiable q.1.cls q.2 ∈ tables_1 ∧ Cond.privateMethod q.1 ∈ tables_1 ∧ Cond.instanceMethod q.1 ∈ tables_1
theorem lw_p0 : lw_okq (⟨"StreamSeal", "tapeReaches", "(I)Z"⟩, 12) := ⟨⟨by decide +kernel, by decide +kernel⟩, (List.mem_append_left _ (List.mem_of_getElem? (l := tables_1_1) (i := 10) rfl)), (List.mem_append_left _ (List.mem_of_getElem? (l := tables_1_1) (i := 132) rfl)), (List.mem_append_left _ (List.mem_of_getElem? (l := tables_1_1) (i := 133) rfl))⟩
theorem lw_p1 : lw_okq (⟨"StreamSeal$ChaCha20", "lay", "([B[BI)V"⟩, 2) := ⟨⟨by decide +kernel, by decide +kernel⟩, (List.mem_append_left _ (List.mem_of_getElem? (l := tables_1_1) (i := 18) rfl)), (List.mem_append_left _ (List.mem_of_getElem? (l := tables_1_1) (i := 159) rfl)), (List.mem_append_left _ (List.mem_of_getElem? (l := tables_1_1) (i := 160) rfl))⟩
theorem lw_p2 : lw_okq (⟨"StreamSeal$ChaCha20", "mixColumns", "()V"⟩, 2) := ⟨⟨by decide +kernel, by decide +kernel⟩, (List.mem_append_left _ (List.mem_of_getElem? (l := tables_1_1) (i := 18) rfl)), (List.mem_append_left _ (List.mem_of_getElem? (l := tables_1_1) (i := 171) rfl)), (List.mem_append_left _ (List.mem_of_getElem? (l := tables_1_1) (i := 172) rfl))⟩
theorem lw_p3 : lw_okq (⟨"StreamSeal$ChaCha20", "mixQuarter", "(IIII)V"⟩, 2) := ⟨⟨by decide +kernel, by decide +kernel⟩, (List.mem_append_left _ (List.mem_of_getElem? (l := tables_1_1) (i := 18) rfl)), (List.mem_append_left _ (List.mem_of_getElem? (l := tables_1_1) (i := 175) rfl)), (List.mem_append_left _ (List.mem_of_getElem? (l := tables_1_1) (i := 176) rfl))⟩
theorem lw_p4 : lw_okq (⟨"StreamSeal$ChaCha20", "mixDiagonals", "()V"⟩, 2) := ⟨⟨by decide +kernel, by decide +kernel⟩, (List.mem_append_left _ (List.mem_of_getElem? (l := tables_1_1) (i := 18) rfl)), (List.mem_append_left _ (List.mem_of_getElem? (l := tables_1_1) (i := 182) rfl)), (List.mem_append_left _ (List.mem_of_getElem? (l := tables_1_1) (i := 183) rfl))⟩
theorem lw_p5 : lw_okq (⟨"StreamSeal$Poly1305", "clampBlock", "()V"⟩, 6) := ⟨⟨by decide +kernel, by decide +kernel⟩, (List.mem_append_left _ (List.mem_of_getElem? (l := tables_1_1) (i := 33) rfl)), (List.mem_append_left _ (List.mem_of_getElem? (l := tables_1_1) (i := 198) rfl)), (List.mem_append_left _ (List.mem_of_getElem? (l := tables_1_1) (i := 199) rfl))⟩
theorem lw_p6 : lw_okq (⟨"StreamSeal$Poly1305", "blockPart", "(I)J"⟩, 6) := ⟨⟨by decide +kernel, by decide +kernel⟩, (List.mem_append_left _ (List.mem_of_getElem? (l := tables_1_1) (i := 33) rfl)), (List.mem_append_left _ (List.mem_of_getElem? (l := tables_1_1) (i := 202) rfl)), (List.mem_append_left _ (List.mem_of_getElem? (l := tables_1_1) (i := 203) rfl))⟩
theorem lw_p7 : lw_okq (⟨"StreamSeal$Poly1305", "addBlock", "([BIII)V"⟩, 6) := ⟨⟨by decide +kernel, by decide +kernel⟩, (List.mem_append_left _ (List.mem_of_getElem? (l := tables_1_1) (i := 33) rfl)), (List.mem_append_left _ (List.mem_of_getElem? (l := tables_1_1) (i := 216) rfl)), (List.mem_append_left _ (List.mem_of_getElem? (l := tables_1_1) (i := 217) rfl))⟩
theorem lw_p8 : lw_okq (⟨"StreamSeal$Poly1305", "multiply", "()V"⟩, 6) := ⟨⟨by decide +kernel, by decide +kernel⟩, (List.mem_append_left _ (List.mem_of_getElem? (l := tables_1_1) (i := 33) rfl)), (List.mem_append_left _ (List.mem_of_getElem? (l := tables_1_1) (i := 223) rfl)), (List.mem_append_left _ (List.mem_of_getElem? (l := tables_1_1) (i := 224) rfl))⟩
theorem lw_p9 : lw_okq (⟨"StreamSeal$Poly1305", "carry", "()V"⟩, 6) := ⟨⟨by decide +kernel, by decide +kernel⟩, (List.mem_append_left _ (List.mem_of_getElem? (l := tables_1_1) (i := 33) rfl)), (List.mem_append_left _ (List.mem_of_getElem? (l := tables_1_1) (i := 228) rfl)), (List.mem_append_left _ (List.mem_of_getElem? (l := tables_1_1) (i := 229) rfl))⟩
theorem lw_p10 : lw_okq (⟨"StreamSeal$Poly1305", "takePrimeOff", "()V"⟩, 6) := ⟨⟨by decide +kernel, by decide +kernel⟩, (List.mem_append_left _ (List.mem_of_getElem? (l := tables_1_1) (i := 33) rfl)), (List.mem_append_left _ (List.mem_of_getElem? (l := tables_1_1) (i := 236) rfl)), (List.mem_append_left _ (List.mem_of_getElem? (l := tables_1_1) (i := 237) rfl))⟩
theorem lw_p11 : lw_okq (⟨"StreamSeal", "streamTapeToOut", "(II)V"⟩, 12) := ⟨⟨by decide +kernel, by decide +kernel⟩, (List.mem_append_left _ (List.mem_of_getElem? (l := tables_1_1) (i := 10) rfl)), (List.mem_append_right _ (List.mem_append_left _ (List.mem_of_getElem? (l := tables_1_2) (i := 5) rfl))), (List.mem_append_right _ (List.mem_append_left _ (List.mem_of_getElem? (l := tables_1_2) (i := 6) rfl)))⟩
theorem lw_p12 : lw_okq (⟨"StreamSeal", "sumSealed", "(I[BII)V"⟩, 12) := ⟨⟨by decide +kernel, by decide +kernel⟩, (List.mem_append_left _ (List.mem_of_getElem? (l := tables_1_1) (i := 10) rfl)), (List.mem_append_right _ (List.mem_append_left _ (List.mem_of_getElem? (l := tables_1_2) (i := 10) rfl))), (List.mem_append_right _ (List.mem_append_left _ (List.mem_of_getElem? (l := tables_1_2) (i := 11) rfl)))⟩
theorem lw_p13 : lw_okq (⟨"StreamSeal", "sumStandsAt", "(I)Z"⟩, 12) := ⟨⟨by decide +kernel, by decide +kernel⟩, (List.mem_append_left _ (List.mem_of_getElem? (l := tables_1_1) (i := 10) rfl)), (List.mem_append_right _ (List.mem_append_left _ (List.mem_of_getElem? (l := tables_1_2) (i := 23) rfl))), (List.mem_append_right _ (List.mem_append_left _ (List.mem_of_getElem? (l := tables_1_2) (i := 24) rfl)))⟩
theorem lw_p14 : lw_okq (⟨"StreamSeal$Sha256", "addByte", "(B)V"⟩, 6) := ⟨⟨by decide +kernel, by decide +kernel⟩, (List.mem_append_left _ (List.mem_of_getElem? (l := tables_1_1) (i := 59) rfl)), (List.mem_append_right _ (List.mem_append_left _ (List.mem_of_getElem? (l := tables_1_2) (i := 42) rfl))), (List.mem_append_right _ (List.mem_append_left _ (List.mem_of_getElem? (l := tables_1_2) (i := 43) rfl)))⟩
theorem lw_p15 : lw_okq (⟨"StreamSeal$Sha256", "spreadBlock", "()V"⟩, 6) := ⟨⟨by decide +kernel, by decide +kernel⟩, (List.mem_append_left _ (List.mem_of_getElem? (l := tables_1_1) (i := 59) rfl)), (List.mem_append_right _ (List.mem_append_left _ (List.mem_of_getElem? (l := tables_1_2) (i := 46) rfl))), (List.mem_append_right _ (List.mem_append_left _ (List.mem_of_getElem? (l := tables_1_2) (i := 47) rfl)))⟩
def lw_privs_1 : List (MethodName × Nat) := [(⟨"StreamSeal", "tapeReaches", "(I)Z"⟩, 12), (⟨"StreamSeal$ChaCha20", "lay", "([B[BI)V"⟩, 2), (⟨"StreamSeal$ChaCha20", "mixColumns", "()V"⟩, 2), (⟨"StreamSeal$ChaCha20", "mixQuarter", "(IIII)V"⟩, 2), (⟨"StreamSeal$ChaCha20", "mixDiagonals", "()V"⟩, 2), (⟨"StreamSeal$Poly1305", "clampBlock", "()V"⟩, 6), (⟨"StreamSeal$Poly1305", "blockPart", "(I)J"⟩, 6), (⟨"StreamSeal$Poly1305", "addBlock", "([BIII)V"⟩, 6), (⟨"StreamSeal$Poly1305", "multiply", "()V"⟩, 6), (⟨"StreamSeal$Poly1305", "carry", "()V"⟩, 6), (⟨"StreamSeal$Poly1305", "takePrimeOff", "()V"⟩, 6), (⟨"StreamSeal", "streamTapeToOut", "(II)V"⟩, 12), (⟨"StreamSeal", "sumSealed", "(I[BII)V"⟩, 12), (⟨"StreamSeal", "sumStandsAt", "(I)Z"⟩, 12), (⟨"StreamSeal$Sha256", "addByte", "(B)V"⟩, 6), (⟨"StreamSeal$Sha256", "spreadBlock", "()V"⟩, 6)]
theorem lw_r1 : ∀ q ∈ lw_privs_1, lw_okq q := List.forall_mem_cons.mpr ⟨lw_p0, List.forall_mem_cons.mpr ⟨lw_p1, List.forall_mem_cons.mpr ⟨lw_p2, List.forall_mem_cons.mpr ⟨lw_p3, List.forall_mem_cons.mpr ⟨lw_p4, List.forall_mem_cons.mpr ⟨lw_p5, List.forall_mem_cons.mpr ⟨lw_p6, List.forall_mem_cons.mpr ⟨lw_p7, List.forall_mem_cons.mpr ⟨lw_p8, List.forall_mem_cons.mpr ⟨lw_p9, List.forall_mem_cons.mpr ⟨lw_p10, List.forall_mem_cons.mpr ⟨lw_p11, List.forall_mem_cons.mpr ⟨lw_p12, List.forall_mem_cons.mpr ⟨lw_p13, List.forall_mem_cons.mpr ⟨lw_p14, List.forall_mem_cons.mpr ⟨lw_p15, fun _ h => absurd h List.not_mem_nil⟩⟩⟩⟩⟩⟩⟩⟩⟩⟩⟩⟩⟩⟩⟩⟩
theorem lw_p16 : lw_okq (⟨"StreamSeal$Sha256", "mixBlock", "()V"⟩, 6) := ⟨⟨by decide +kernel, by decide +kernel⟩, (List.mem_append_left _ (List.mem_of_getElem? (l := tables_1_1) (i := 59) rfl)), (List.mem_append_right _ (List.mem_append_left _ (List.mem_of_getElem? (l := tables_1_2) (i := 56) rfl))), (List.mem_append_right _ (List.mem_append_left _ (List.mem_of_getElem? (l := tables_1_2) (i := 57) rfl)))⟩
theorem lw_p17 : lw_okq (⟨"StreamSeal$Sha256", "mixRound", "(I)V"⟩, 6) := ⟨⟨by decide +kernel, by decide +kernel⟩, (List.mem_append_left _ (List.mem_of_getElem? (l := tables_1_1) (i := 59) rfl)), (List.mem_append_right _ (List.mem_append_left _ (List.mem_of_getElem? (l := tables_1_2) (i := 62) rfl))), (List.mem_append_right _ (List.mem_append_left _ (List.mem_of_getElem? (l := tables_1_2) (i := 63) rfl)))⟩
theorem lw_p18 : lw_okq (⟨"StreamSealModel", "put", "(I)V"⟩, 21) := ⟨⟨by decide +kernel, by decide +kernel⟩, (List.mem_append_right _ (List.mem_append_left _ (List.mem_of_getElem? (l := tables_1_2) (i := 83) rfl))), (List.mem_append_right _ (List.mem_append_left _ (List.mem_of_getElem? (l := tables_1_2) (i := 157) rfl))), (List.mem_append_right _ (List.mem_append_left _ (List.mem_of_getElem? (l := tables_1_2) (i := 158) rfl)))⟩
theorem lw_p19 : lw_okq (⟨"StreamSealModel", "block", "(I)V"⟩, 21) := ⟨⟨by decide +kernel, by decide +kernel⟩, (List.mem_append_right _ (List.mem_append_left _ (List.mem_of_getElem? (l := tables_1_2) (i := 83) rfl))), (List.mem_append_right _ (List.mem_append_left _ (List.mem_of_getElem? (l := tables_1_2) (i := 181) rfl))), (List.mem_append_right _ (List.mem_append_left _ (List.mem_of_getElem? (l := tables_1_2) (i := 182) rfl)))⟩
theorem lw_p20 : lw_okq (⟨"StreamSealModel", "mix", "(IIII)V"⟩, 21) := ⟨⟨by decide +kernel, by decide +kernel⟩, (List.mem_append_right _ (List.mem_append_left _ (List.mem_of_getElem? (l := tables_1_2) (i := 83) rfl))), (List.mem_append_right _ (List.mem_append_left _ (List.mem_of_getElem? (l := tables_1_2) (i := 192) rfl))), (List.mem_append_right _ (List.mem_append_left _ (List.mem_of_getElem? (l := tables_1_2) (i := 193) rfl)))⟩
theorem lw_p21 : lw_okq (⟨"StreamSealModel", "sumOf", "([BI)V"⟩, 21) := ⟨⟨by decide +kernel, by decide +kernel⟩, (List.mem_append_right _ (List.mem_append_left _ (List.mem_of_getElem? (l := tables_1_2) (i := 83) rfl))), (List.mem_append_right _ (List.mem_append_left _ (List.mem_of_getElem? (l := tables_1_2) (i := 203) rfl))), (List.mem_append_right _ (List.mem_append_left _ (List.mem_of_getElem? (l := tables_1_2) (i := 204) rfl)))⟩
theorem lw_p22 : lw_okq (⟨"StreamSealModel", "settle", "()V"⟩, 21) := ⟨⟨by decide +kernel, by decide +kernel⟩, (List.mem_append_right _ (List.mem_append_left _ (List.mem_of_getElem? (l := tables_1_2) (i := 83) rfl))), (List.mem_append_right _ (List.mem_append_left _ (List.mem_of_getElem? (l := tables_1_2) (i := 207) rfl))), (List.mem_append_right _ (List.mem_append_left _ (List.mem_of_getElem? (l := tables_1_2) (i := 208) rfl)))⟩
theorem lw_p23 : lw_okq (⟨"StreamSealModel", "carry", "()V"⟩, 21) := ⟨⟨by decide +kernel, by decide +kernel⟩, (List.mem_append_right _ (List.mem_append_left _ (List.mem_of_getElem? (l := tables_1_2) (i := 83) rfl))), (List.mem_append_right _ (List.mem_append_left _ (List.mem_of_getElem? (l := tables_1_2) (i := 211) rfl))), (List.mem_append_right _ (List.mem_append_left _ (List.mem_of_getElem? (l := tables_1_2) (i := 212) rfl)))⟩
theorem lw_p24 : lw_okq (⟨"StreamSealModel", "tag", "()I"⟩, 21) := ⟨⟨by decide +kernel, by decide +kernel⟩, (List.mem_append_right _ (List.mem_append_left _ (List.mem_of_getElem? (l := tables_1_2) (i := 83) rfl))), (List.mem_append_right _ (List.mem_append_left _ (List.mem_of_getElem? (l := tables_1_2) (i := 215) rfl))), (List.mem_append_right _ (List.mem_append_left _ (List.mem_of_getElem? (l := tables_1_2) (i := 216) rfl)))⟩
theorem lw_p25 : lw_okq (⟨"StreamSealModel", "cover", "(II[B)V"⟩, 21) := ⟨⟨by decide +kernel, by decide +kernel⟩, (List.mem_append_right _ (List.mem_append_left _ (List.mem_of_getElem? (l := tables_1_2) (i := 83) rfl))), (List.mem_append_right _ (List.mem_append_left _ (List.mem_of_getElem? (l := tables_1_2) (i := 223) rfl))), (List.mem_append_right _ (List.mem_append_left _ (List.mem_of_getElem? (l := tables_1_2) (i := 224) rfl)))⟩
theorem lw_p26 : lw_okq (⟨"StreamSealModel", "seals", "(I[BII)V"⟩, 21) := ⟨⟨by decide +kernel, by decide +kernel⟩, (List.mem_append_right _ (List.mem_append_left _ (List.mem_of_getElem? (l := tables_1_2) (i := 83) rfl))), (List.mem_append_right _ (List.mem_append_left _ (List.mem_of_getElem? (l := tables_1_2) (i := 227) rfl))), (List.mem_append_right _ (List.mem_append_left _ (List.mem_of_getElem? (l := tables_1_2) (i := 228) rfl)))⟩
theorem lw_p27 : lw_okq (⟨"StreamSealModel", "text", "([BII)V"⟩, 21) := ⟨⟨by decide +kernel, by decide +kernel⟩, (List.mem_append_right _ (List.mem_append_left _ (List.mem_of_getElem? (l := tables_1_2) (i := 83) rfl))), (List.mem_append_right _ (List.mem_append_left _ (List.mem_of_getElem? (l := tables_1_2) (i := 231) rfl))), (List.mem_append_right _ (List.mem_append_left _ (List.mem_of_getElem? (l := tables_1_2) (i := 232) rfl)))⟩
theorem lw_p28 : lw_okq (⟨"StreamSealModel", "add", "([BII)V"⟩, 21) := ⟨⟨by decide +kernel, by decide +kernel⟩, (List.mem_append_right _ (List.mem_append_left _ (List.mem_of_getElem? (l := tables_1_2) (i := 83) rfl))), (List.mem_append_right _ (List.mem_append_right _ (List.mem_of_getElem? (l := tables_1_3) (i := 3) rfl))), (List.mem_append_right _ (List.mem_append_right _ (List.mem_of_getElem? (l := tables_1_3) (i := 4) rfl)))⟩
theorem lw_p29 : lw_okq (⟨"StreamSealModel", "add", "(I)V"⟩, 21) := ⟨⟨by decide +kernel, by decide +kernel⟩, (List.mem_append_right _ (List.mem_append_left _ (List.mem_of_getElem? (l := tables_1_2) (i := 83) rfl))), (List.mem_append_right _ (List.mem_append_right _ (List.mem_of_getElem? (l := tables_1_3) (i := 7) rfl))), (List.mem_append_right _ (List.mem_append_right _ (List.mem_of_getElem? (l := tables_1_3) (i := 8) rfl)))⟩
theorem lw_p30 : lw_okq (⟨"StreamSealModel", "hashTo", "([BI)V"⟩, 21) := ⟨⟨by decide +kernel, by decide +kernel⟩, (List.mem_append_right _ (List.mem_append_left _ (List.mem_of_getElem? (l := tables_1_2) (i := 83) rfl))), (List.mem_append_right _ (List.mem_append_right _ (List.mem_of_getElem? (l := tables_1_3) (i := 11) rfl))), (List.mem_append_right _ (List.mem_append_right _ (List.mem_of_getElem? (l := tables_1_3) (i := 12) rfl)))⟩
theorem lw_p31 : lw_okq (⟨"StreamSealModel", "block", "(III)V"⟩, 21) := ⟨⟨by decide +kernel, by decide +kernel⟩, (List.mem_append_right _ (List.mem_append_left _ (List.mem_of_getElem? (l := tables_1_2) (i := 83) rfl))), (List.mem_append_right _ (List.mem_append_right _ (List.mem_of_getElem? (l := tables_1_3) (i := 18) rfl))), (List.mem_append_right _ (List.mem_append_right _ (List.mem_of_getElem? (l := tables_1_3) (i := 19) rfl)))⟩
def lw_privs_2 : List (MethodName × Nat) := [(⟨"StreamSeal$Sha256", "mixBlock", "()V"⟩, 6), (⟨"StreamSeal$Sha256", "mixRound", "(I)V"⟩, 6), (⟨"StreamSealModel", "put", "(I)V"⟩, 21), (⟨"StreamSealModel", "block", "(I)V"⟩, 21), (⟨"StreamSealModel", "mix", "(IIII)V"⟩, 21), (⟨"StreamSealModel", "sumOf", "([BI)V"⟩, 21), (⟨"StreamSealModel", "settle", "()V"⟩, 21), (⟨"StreamSealModel", "carry", "()V"⟩, 21), (⟨"StreamSealModel", "tag", "()I"⟩, 21), (⟨"StreamSealModel", "cover", "(II[B)V"⟩, 21), (⟨"StreamSealModel", "seals", "(I[BII)V"⟩, 21), (⟨"StreamSealModel", "text", "([BII)V"⟩, 21), (⟨"StreamSealModel", "add", "([BII)V"⟩, 21), (⟨"StreamSealModel", "add", "(I)V"⟩, 21), (⟨"StreamSealModel", "hashTo", "([BI)V"⟩, 21), (⟨"StreamSealModel", "block", "(III)V"⟩, 21)]
theorem lw_r2 : ∀ q ∈ lw_privs_2, lw_okq q := List.forall_mem_cons.mpr ⟨lw_p16, List.forall_mem_cons.mpr ⟨lw_p17, List.forall_mem_cons.mpr ⟨lw_p18, List.forall_mem_cons.mpr ⟨lw_p19, List.forall_mem_cons.mpr ⟨lw_p20, List.forall_mem_cons.mpr ⟨lw_p21, List.forall_mem_cons.mpr ⟨lw_p22, List.forall_mem_cons.mpr ⟨lw_p23, List.forall_mem_cons.mpr ⟨lw_p24, List.forall_mem_cons.mpr ⟨lw_p25, List.forall_mem_cons.mpr ⟨lw_p26, List.forall_mem_cons.mpr ⟨lw_p27, List.forall_mem_cons.mpr ⟨lw_p28, List.forall_mem_cons.mpr ⟨lw_p29, List.forall_mem_cons.mpr ⟨lw_p30, List.forall_mem_cons.mpr ⟨lw_p31, fun _ h => absurd h List.not_mem_nil⟩⟩⟩⟩⟩⟩⟩⟩⟩⟩⟩⟩⟩⟩⟩⟩
def lw_privs : List (MethodName × Nat) := lw_privs_1 ++ (lw_privs_2)
def lw_tbl : List Cond := k2_sels lw_privs ++ tables_1
theorem lw_privs_ok : ∀ q ∈ lw_privs, lw_okq q := by
  show ∀ q ∈ lw_privs_1 ++ (lw_privs_2), lw_okq q
  exact List.forall_mem_append.mpr ⟨lw_r1, lw_r2⟩

abbrev RX0 : String := "StreamSeal$ChaCha20"
def TX0 : u_T := fun k => match k with
  | 0 => ("StreamSeal$ChaCha20", "first", "[I", true)
  | _ => ("StreamSeal$ChaCha20", "mixed", "[I", true)
def tyX0 : Nat → FieldType := fun k => match k with
  | 0 => .array .int
  | _ => .array .int
theorem nmX0 : ∀ a, a < 2 → ∀ b, b < 2 → a ≠ b → (TX0 a).2.1 ≠ (TX0 b).2.1 := by decide +kernel
theorem tyX0_ok : ∀ k, k < 2 → parseFieldDescriptor (TX0 k).2.2.1 = some (tyX0 k) := by decide +kernel
abbrev RX1 : String := "StreamSeal$Poly1305"
def TX1 : u_T := fun k => match k with
  | 0 => ("StreamSeal$Poly1305", "factor", "[J", true)
  | 1 => ("StreamSeal$Poly1305", "total", "[J", true)
  | 2 => ("StreamSeal$Poly1305", "product", "[J", true)
  | 3 => ("StreamSeal$Poly1305", "words", "[J", true)
  | 4 => ("StreamSeal$Poly1305", "last", "[I", true)
  | _ => ("StreamSeal$Poly1305", "block", "[B", true)
def tyX1 : Nat → FieldType := fun k => match k with
  | 0 => .array .long
  | 1 => .array .long
  | 2 => .array .long
  | 3 => .array .long
  | 4 => .array .int
  | _ => .array .byte
theorem nmX1 : ∀ a, a < 6 → ∀ b, b < 6 → a ≠ b → (TX1 a).2.1 ≠ (TX1 b).2.1 := by decide +kernel
theorem tyX1_ok : ∀ k, k < 6 → parseFieldDescriptor (TX1 k).2.2.1 = some (tyX1 k) := by decide +kernel
abbrev RX2 : String := "StreamSeal$Sha256"
def TX2 : u_T := fun k => match k with
  | 0 => ("StreamSeal$Sha256", "state", "[I", true)
  | 1 => ("StreamSeal$Sha256", "schedule", "[I", true)
  | 2 => ("StreamSeal$Sha256", "round", "[I", true)
  | 3 => ("StreamSeal$Sha256", "block", "[B", true)
  | 4 => ("StreamSeal$Sha256", "filled", "I", false)
  | _ => ("StreamSeal$Sha256", "size", "I", false)
def tyX2 : Nat → FieldType := fun k => match k with
  | 0 => .array .int
  | 1 => .array .int
  | 2 => .array .int
  | 3 => .array .byte
  | 4 => .int
  | _ => .int
theorem nmX2 : ∀ a, a < 6 → ∀ b, b < 6 → a ≠ b → (TX2 a).2.1 ≠ (TX2 b).2.1 := by decide +kernel
theorem tyX2_ok : ∀ k, k < 6 → parseFieldDescriptor (TX2 k).2.2.1 = some (tyX2 k) := by decide +kernel
abbrev RX3 : String := "StreamSeal"
def TX3 : u_T := fun k => match k with
  | 0 => ("StreamSeal", "tape", "[B", true)
  | 1 => ("StreamSeal", "tapeSize", "I", false)
  | 2 => ("StreamSeal", "out", "[B", true)
  | 3 => ("StreamSeal", "outSize", "I", false)
  | 4 => ("StreamSeal", "keyBytes", "[B", true)
  | 5 => ("StreamSeal", "nonceBytes", "[B", true)
  | 6 => ("StreamSeal", "streamBytes", "[B", true)
  | 7 => ("StreamSeal", "sizeBytes", "[B", true)
  | 8 => ("StreamSeal", "sumBytes", "[B", true)
  | 9 => ("StreamSeal", "streamer", "LStreamSeal$ChaCha20;", true)
  | 10 => ("StreamSeal", "summer", "LStreamSeal$Poly1305;", true)
  | _ => ("StreamSeal", "digester", "LStreamSeal$Sha256;", true)
def tyX3 : Nat → FieldType := fun k => match k with
  | 0 => .array .byte
  | 1 => .int
  | 2 => .array .byte
  | 3 => .int
  | 4 => .array .byte
  | 5 => .array .byte
  | 6 => .array .byte
  | 7 => .array .byte
  | 8 => .array .byte
  | 9 => .object "StreamSeal$ChaCha20"
  | 10 => .object "StreamSeal$Poly1305"
  | _ => .object "StreamSeal$Sha256"
theorem nmX3 : ∀ a, a < 12 → ∀ b, b < 12 → a ≠ b → (TX3 a).2.1 ≠ (TX3 b).2.1 := by decide +kernel
theorem tyX3_ok : ∀ k, k < 12 → parseFieldDescriptor (TX3 k).2.2.1 = some (tyX3 k) := by decide +kernel
abbrev RX4 : String := "StreamSealModel"
def TX4 : u_T := fun k => match k with
  | 0 => ("StreamSealModel", "tape", "[B", true)
  | 1 => ("StreamSealModel", "tapeLength", "I", false)
  | 2 => ("StreamSealModel", "out", "[B", true)
  | 3 => ("StreamSealModel", "outCount", "I", false)
  | 4 => ("StreamSealModel", "key", "[B", true)
  | 5 => ("StreamSealModel", "nonce", "[B", true)
  | 6 => ("StreamSealModel", "row", "[B", true)
  | 7 => ("StreamSealModel", "rowCount", "I", false)
  | 8 => ("StreamSealModel", "h", "[J", true)
  | 9 => ("StreamSealModel", "w", "[J", true)
  | 10 => ("StreamSealModel", "one", "[B", true)
  | 11 => ("StreamSealModel", "v", "[I", true)
  | 12 => ("StreamSealModel", "begin", "[I", true)
  | 13 => ("StreamSealModel", "stream", "[B", true)
  | 14 => ("StreamSealModel", "sum", "[I", true)
  | 15 => ("StreamSealModel", "product", "[I", true)
  | 16 => ("StreamSealModel", "\x72", "[I", true)
  | 17 => ("StreamSealModel", "text", "[B", true)
  | 18 => ("StreamSealModel", "tag", "[B", true)
  | 19 => ("StreamSealModel", "above", "[I", true)
  | _ => ("StreamSealModel", "texts", "I", false)
def tyX4 : Nat → FieldType := fun k => match k with
  | 0 => .array .byte
  | 1 => .int
  | 2 => .array .byte
  | 3 => .int
  | 4 => .array .byte
  | 5 => .array .byte
  | 6 => .array .byte
  | 7 => .int
  | 8 => .array .long
  | 9 => .array .long
  | 10 => .array .byte
  | 11 => .array .int
  | 12 => .array .int
  | 13 => .array .byte
  | 14 => .array .int
  | 15 => .array .int
  | 16 => .array .int
  | 17 => .array .byte
  | 18 => .array .byte
  | 19 => .array .int
  | _ => .int
theorem nmX4 : ∀ a, a < 21 → ∀ b, b < 21 → a ≠ b → (TX4 a).2.1 ≠ (TX4 b).2.1 := by decide +kernel
theorem tyX4_ok : ∀ k, k < 21 → parseFieldDescriptor (TX4 k).2.2.1 = some (tyX4 k) := by decide +kernel
abbrev vwCl : List vw_C := [(RX0, TX0, 2), (RX1, TX1, 6), (RX2, TX2, 6), (RX3, TX3, 12), (RX4, TX4, 21)]
abbrev cS_init : ByteArray := prog_1_method_1_code
def yS_init : MethodName := ⟨"StreamSeal", "<init>", "()V"⟩
abbrev cS_feed : ByteArray := prog_1_method_2_code
def yS_feed : MethodName := ⟨"StreamSeal", "feed", "(IIIII)I"⟩
abbrev cS_end : ByteArray := prog_1_method_3_code
def yS_end : MethodName := ⟨"StreamSeal", "end", "(I)I"⟩
abbrev cS_take : ByteArray := prog_1_method_4_code
def yS_take : MethodName := ⟨"StreamSeal", "take", "(I)I"⟩
abbrev cS_key : ByteArray := prog_1_method_5_code
def yS_key : MethodName := ⟨"StreamSeal", "key", "()I"⟩
abbrev cS_nonce : ByteArray := prog_1_method_6_code
def yS_nonce : MethodName := ⟨"StreamSeal", "nonce", "(IJ)V"⟩
abbrev cS_stream : ByteArray := prog_1_method_7_code
def yS_stream : MethodName := ⟨"StreamSeal", "stream", "(I)I"⟩
abbrev cS_sum : ByteArray := prog_1_method_8_code
def yS_sum : MethodName := ⟨"StreamSeal", "sum", "()I"⟩
abbrev cS_seal : ByteArray := prog_1_method_9_code
def yS_seal : MethodName := ⟨"StreamSeal", "seal", "(I)I"⟩
abbrev cS_open : ByteArray := prog_1_method_10_code
def yS_open : MethodName := ⟨"StreamSeal", "open", "(I)I"⟩
abbrev cS_digest : ByteArray := prog_1_method_11_code
def yS_digest : MethodName := ⟨"StreamSeal", "digest", "()I"⟩
abbrev cS_mac : ByteArray := prog_1_method_12_code
def yS_mac : MethodName := ⟨"StreamSeal", "mac", "()I"⟩
abbrev cS_octet : ByteArray := prog_1_method_13_code
def yS_octet : MethodName := ⟨"StreamSeal", "octet", "(I)I"⟩
abbrev cS_tapeReaches : ByteArray := prog_1_method_14_code
def yS_tapeReaches : MethodName := ⟨"StreamSeal", "tapeReaches", "(I)Z"⟩
abbrev cS_streamTapeToOut : ByteArray := prog_1_method_15_code
def yS_streamTapeToOut : MethodName := ⟨"StreamSeal", "streamTapeToOut", "(II)V"⟩
abbrev cS_sumSealed : ByteArray := prog_1_method_16_code
def yS_sumSealed : MethodName := ⟨"StreamSeal", "sumSealed", "(I[BII)V"⟩
abbrev cS_sumStandsAt : ByteArray := prog_1_method_17_code
def yS_sumStandsAt : MethodName := ⟨"StreamSeal", "sumStandsAt", "(I)Z"⟩
abbrev cS_writeHighestFirst : ByteArray := prog_1_method_18_code
def yS_writeHighestFirst : MethodName := ⟨"StreamSeal", "writeHighestFirst", "([BII)V"⟩
abbrev cS_writeLowestFirst : ByteArray := prog_1_method_19_code
def yS_writeLowestFirst : MethodName := ⟨"StreamSeal", "writeLowestFirst", "([BII)V"⟩
abbrev cS_readHighestFirst : ByteArray := prog_1_method_20_code
def yS_readHighestFirst : MethodName := ⟨"StreamSeal", "readHighestFirst", "([BI)I"⟩
abbrev cS_readLowestFirst : ByteArray := prog_1_method_21_code
def yS_readLowestFirst : MethodName := ⟨"StreamSeal", "readLowestFirst", "([BI)I"⟩
abbrev cS_turnLeft : ByteArray := prog_1_method_22_code
def yS_turnLeft : MethodName := ⟨"StreamSeal", "turnLeft", "(II)I"⟩
abbrev cS_turnRight : ByteArray := prog_1_method_23_code
def yS_turnRight : MethodName := ⟨"StreamSeal", "turnRight", "(II)I"⟩
abbrev cM_init : ByteArray := prog_6_method_1_code
def yM_init : MethodName := ⟨"StreamSealModel", "<init>", "()V"⟩
abbrev cM_add : ByteArray := prog_6_method_2_code
def yM_add : MethodName := ⟨"StreamSealModel", "add", "(I)V"⟩
abbrev cM_addArr : ByteArray := prog_6_method_3_code
def yM_addArr : MethodName := ⟨"StreamSealModel", "add", "([BII)V"⟩
abbrev cM_turn : ByteArray := prog_6_method_4_code
def yM_turn : MethodName := ⟨"StreamSealModel", "turn", "(JI)J"⟩
abbrev cM_hblock : ByteArray := prog_6_method_5_code
def yM_hblock : MethodName := ⟨"StreamSealModel", "block", "(III)V"⟩
abbrev cM_hashTo : ByteArray := prog_6_method_6_code
def yM_hashTo : MethodName := ⟨"StreamSealModel", "hashTo", "([BI)V"⟩
abbrev cM_low : ByteArray := prog_6_method_7_code
def yM_low : MethodName := ⟨"StreamSealModel", "low", "([BI)I"⟩
abbrev cM_mix : ByteArray := prog_6_method_8_code
def yM_mix : MethodName := ⟨"StreamSealModel", "mix", "(IIII)V"⟩
abbrev cM_turned : ByteArray := prog_6_method_9_code
def yM_turned : MethodName := ⟨"StreamSealModel", "turned", "(II)I"⟩
abbrev cM_block : ByteArray := prog_6_method_10_code
def yM_block : MethodName := ⟨"StreamSealModel", "block", "(I)V"⟩
abbrev cM_carry : ByteArray := prog_6_method_11_code
def yM_carry : MethodName := ⟨"StreamSealModel", "carry", "()V"⟩
abbrev cM_settle : ByteArray := prog_6_method_12_code
def yM_settle : MethodName := ⟨"StreamSealModel", "settle", "()V"⟩
abbrev cM_sumOf : ByteArray := prog_6_method_13_code
def yM_sumOf : MethodName := ⟨"StreamSealModel", "sumOf", "([BI)V"⟩
abbrev cM_text : ByteArray := prog_6_method_14_code
def yM_text : MethodName := ⟨"StreamSealModel", "text", "([BII)V"⟩
abbrev cM_seals : ByteArray := prog_6_method_15_code
def yM_seals : MethodName := ⟨"StreamSealModel", "seals", "(I[BII)V"⟩
abbrev cM_cover : ByteArray := prog_6_method_16_code
def yM_cover : MethodName := ⟨"StreamSealModel", "cover", "(II[B)V"⟩
abbrev cM_put : ByteArray := prog_6_method_17_code
def yM_put : MethodName := ⟨"StreamSealModel", "put", "(I)V"⟩
abbrev cM_feed : ByteArray := prog_6_method_18_code
def yM_feed : MethodName := ⟨"StreamSealModel", "feed", "(IIIII)I"⟩
abbrev cM_end : ByteArray := prog_6_method_19_code
def yM_end : MethodName := ⟨"StreamSealModel", "end", "(I)I"⟩
abbrev cM_take : ByteArray := prog_6_method_20_code
def yM_take : MethodName := ⟨"StreamSealModel", "take", "(I)I"⟩
abbrev cM_key : ByteArray := prog_6_method_21_code
def yM_key : MethodName := ⟨"StreamSealModel", "key", "()I"⟩
abbrev cM_nonce : ByteArray := prog_6_method_22_code
def yM_nonce : MethodName := ⟨"StreamSealModel", "nonce", "(IJ)V"⟩
abbrev cM_stream : ByteArray := prog_6_method_23_code
def yM_stream : MethodName := ⟨"StreamSealModel", "stream", "(I)I"⟩
abbrev cM_tag : ByteArray := prog_6_method_24_code
def yM_tag : MethodName := ⟨"StreamSealModel", "tag", "()I"⟩
abbrev cM_sum : ByteArray := prog_6_method_25_code
def yM_sum : MethodName := ⟨"StreamSealModel", "sum", "()I"⟩
abbrev cM_seal : ByteArray := prog_6_method_26_code
def yM_seal : MethodName := ⟨"StreamSealModel", "seal", "(I)I"⟩
abbrev cM_open : ByteArray := prog_6_method_27_code
def yM_open : MethodName := ⟨"StreamSealModel", "open", "(I)I"⟩
abbrev cM_digest : ByteArray := prog_6_method_28_code
def yM_digest : MethodName := ⟨"StreamSealModel", "digest", "()I"⟩
abbrev cM_mac : ByteArray := prog_6_method_29_code
def yM_mac : MethodName := ⟨"StreamSealModel", "mac", "()I"⟩
abbrev cM_octet : ByteArray := prog_6_method_30_code
def yM_octet : MethodName := ⟨"StreamSealModel", "octet", "(I)I"⟩
abbrev cC_init : ByteArray := prog_2_method_1_code
def yC_init : MethodName := ⟨"StreamSeal$ChaCha20", "<init>", "()V"⟩
abbrev cC_fill : ByteArray := prog_2_method_2_code
def yC_fill : MethodName := ⟨"StreamSeal$ChaCha20", "fill", "([B[B[BI)V"⟩
abbrev cC_lay : ByteArray := prog_2_method_3_code
def yC_lay : MethodName := ⟨"StreamSeal$ChaCha20", "lay", "([B[BI)V"⟩
abbrev cC_mixColumns : ByteArray := prog_2_method_4_code
def yC_mixColumns : MethodName := ⟨"StreamSeal$ChaCha20", "mixColumns", "()V"⟩
abbrev cC_mixDiagonals : ByteArray := prog_2_method_5_code
def yC_mixDiagonals : MethodName := ⟨"StreamSeal$ChaCha20", "mixDiagonals", "()V"⟩
abbrev cC_mixQuarter : ByteArray := prog_2_method_6_code
def yC_mixQuarter : MethodName := ⟨"StreamSeal$ChaCha20", "mixQuarter", "(IIII)V"⟩
abbrev cP_init : ByteArray := prog_3_method_1_code
def yP_init : MethodName := ⟨"StreamSeal$Poly1305", "<init>", "()V"⟩
abbrev cP_start : ByteArray := prog_3_method_2_code
def yP_start : MethodName := ⟨"StreamSeal$Poly1305", "start", "([B)V"⟩
abbrev cP_add : ByteArray := prog_3_method_3_code
def yP_add : MethodName := ⟨"StreamSeal$Poly1305", "add", "([BII)V"⟩
abbrev cP_addPadded : ByteArray := prog_3_method_4_code
def yP_addPadded : MethodName := ⟨"StreamSeal$Poly1305", "addPadded", "([BII)V"⟩
abbrev cP_finish : ByteArray := prog_3_method_5_code
def yP_finish : MethodName := ⟨"StreamSeal$Poly1305", "finish", "([BI)V"⟩
abbrev cP_clampBlock : ByteArray := prog_3_method_6_code
def yP_clampBlock : MethodName := ⟨"StreamSeal$Poly1305", "clampBlock", "()V"⟩
abbrev cP_blockPart : ByteArray := prog_3_method_7_code
def yP_blockPart : MethodName := ⟨"StreamSeal$Poly1305", "blockPart", "(I)J"⟩
abbrev cP_addBlock : ByteArray := prog_3_method_8_code
def yP_addBlock : MethodName := ⟨"StreamSeal$Poly1305", "addBlock", "([BIII)V"⟩
abbrev cP_multiply : ByteArray := prog_3_method_9_code
def yP_multiply : MethodName := ⟨"StreamSeal$Poly1305", "multiply", "()V"⟩
abbrev cP_carry : ByteArray := prog_3_method_10_code
def yP_carry : MethodName := ⟨"StreamSeal$Poly1305", "carry", "()V"⟩
abbrev cP_takePrimeOff : ByteArray := prog_3_method_11_code
def yP_takePrimeOff : MethodName := ⟨"StreamSeal$Poly1305", "takePrimeOff", "()V"⟩
abbrev cH_init : ByteArray := prog_4_method_1_code
def yH_init : MethodName := ⟨"StreamSeal$Sha256", "<init>", "()V"⟩
abbrev cH_start : ByteArray := prog_4_method_2_code
def yH_start : MethodName := ⟨"StreamSeal$Sha256", "start", "()V"⟩
abbrev cH_add : ByteArray := prog_4_method_3_code
def yH_add : MethodName := ⟨"StreamSeal$Sha256", "add", "([BI)V"⟩
abbrev cH_addMasked : ByteArray := prog_4_method_4_code
def yH_addMasked : MethodName := ⟨"StreamSeal$Sha256", "addMasked", "([BI)V"⟩
abbrev cH_finish : ByteArray := prog_4_method_5_code
def yH_finish : MethodName := ⟨"StreamSeal$Sha256", "finish", "([B)V"⟩
abbrev cH_addByte : ByteArray := prog_4_method_6_code
def yH_addByte : MethodName := ⟨"StreamSeal$Sha256", "addByte", "(B)V"⟩
abbrev cH_spreadBlock : ByteArray := prog_4_method_7_code
def yH_spreadBlock : MethodName := ⟨"StreamSeal$Sha256", "spreadBlock", "()V"⟩
abbrev cH_mixBlock : ByteArray := prog_4_method_8_code
def yH_mixBlock : MethodName := ⟨"StreamSeal$Sha256", "mixBlock", "()V"⟩
abbrev cH_mixRound : ByteArray := prog_4_method_9_code
def yH_mixRound : MethodName := ⟨"StreamSeal$Sha256", "mixRound", "(I)V"⟩
abbrev cL_law : ByteArray := code
def yL_law : MethodName := ⟨"StreamSealLaw", "law", "([I)Z"⟩
abbrev cA_fill : ByteArray := prog_9_method_109_code
def yA_fill : MethodName := ⟨"java/util/Arrays", "fill", "([BB)V"⟩
def gT : List Cond := lw_tbl.filter goodWord
theorem gT_tbl {w : Cond} (h : w ∈ gT) : w ∈ lw_tbl := (List.mem_filter.mp h).1
theorem gT_good : ∀ w ∈ gT, w ∈ gT ∧ ((w.onTables && w.keeps) = true ∨ ∃ ty, w = .arrayClass ty) := fun w h => ⟨h, good_of_word (List.mem_filter.mp h).2⟩
end
section
theorem m0 : Cond.initialized "StreamSealLaw" ∈ gT := List.mem_filter.mpr ⟨List.mem_append_right _ (List.mem_append_left _ (List.mem_of_getElem? (l := tables_1_1) (i := 0) rfl)), rfl⟩
theorem m1 : Cond.initialized "StreamSeal" ∈ gT := List.mem_filter.mpr ⟨List.mem_append_right _ (List.mem_append_left _ (List.mem_of_getElem? (l := tables_1_1) (i := 1) rfl)), rfl⟩
theorem m2 : Cond.initialized "StreamSeal$ChaCha20" ∈ gT := List.mem_filter.mpr ⟨List.mem_append_right _ (List.mem_append_left _ (List.mem_of_getElem? (l := tables_1_1) (i := 2) rfl)), rfl⟩
theorem m3 : Cond.initialized "StreamSeal$Poly1305" ∈ gT := List.mem_filter.mpr ⟨List.mem_append_right _ (List.mem_append_left _ (List.mem_of_getElem? (l := tables_1_1) (i := 3) rfl)), rfl⟩
theorem m4 : Cond.initialized "StreamSeal$Sha256" ∈ gT := List.mem_filter.mpr ⟨List.mem_append_right _ (List.mem_append_left _ (List.mem_of_getElem? (l := tables_1_1) (i := 4) rfl)), rfl⟩
theorem m5 : Cond.initialized "StreamSealModel" ∈ gT := List.mem_filter.mpr ⟨List.mem_append_right _ (List.mem_append_left _ (List.mem_of_getElem? (l := tables_1_1) (i := 5) rfl)), rfl⟩
theorem m6 : Cond.initialized "java/lang/System" ∈ gT := List.mem_filter.mpr ⟨List.mem_append_right _ (List.mem_append_left _ (List.mem_of_getElem? (l := tables_1_1) (i := 6) rfl)), rfl⟩
theorem m7 : Cond.initialized "java/lang/Math" ∈ gT := List.mem_filter.mpr ⟨List.mem_append_right _ (List.mem_append_left _ (List.mem_of_getElem? (l := tables_1_1) (i := 7) rfl)), rfl⟩
theorem m8 : Cond.initialized "java/util/Arrays" ∈ gT := List.mem_filter.mpr ⟨List.mem_append_right _ (List.mem_append_left _ (List.mem_of_getElem? (l := tables_1_1) (i := 8) rfl)), rfl⟩
theorem m9 : Cond.classLink "StreamSealLaw" 7 "StreamSeal" ∈ gT := List.mem_filter.mpr ⟨List.mem_append_right _ (List.mem_append_left _ (List.mem_of_getElem? (l := tables_1_1) (i := 9) rfl)), rfl⟩
theorem m10 : Cond.instantiable "StreamSeal" 12 ∈ gT := List.mem_filter.mpr ⟨List.mem_append_right _ (List.mem_append_left _ (List.mem_of_getElem? (l := tables_1_1) (i := 10) rfl)), rfl⟩
theorem m11 : Cond.methodLink "StreamSealLaw" 9 yS_init ∈ gT := List.mem_filter.mpr ⟨List.mem_append_right _ (List.mem_append_left _ (List.mem_of_getElem? (l := tables_1_1) (i := 11) rfl)), rfl⟩
theorem m12 : Cond.instanceMethod yS_init ∈ gT := List.mem_filter.mpr ⟨List.mem_append_right _ (List.mem_append_left _ (List.mem_of_getElem? (l := tables_1_1) (i := 12) rfl)), rfl⟩
theorem m13 : Cond.code yS_init prog_1_method_1_code 1 none ∈ gT := List.mem_filter.mpr ⟨List.mem_append_right _ (List.mem_append_left _ (List.mem_of_getElem? (l := tables_1_1) (i := 13) rfl)), rfl⟩
theorem m14 : Cond.methodLink "StreamSeal" 1 Lib.objectInit ∈ gT := List.mem_filter.mpr ⟨List.mem_append_right _ (List.mem_append_left _ (List.mem_of_getElem? (l := tables_1_1) (i := 14) rfl)), rfl⟩
theorem m15 : Cond.instanceMethod Lib.objectInit ∈ gT := List.mem_filter.mpr ⟨List.mem_append_right _ (List.mem_append_left _ (List.mem_of_getElem? (l := tables_1_1) (i := 15) rfl)), rfl⟩
theorem m16 : Cond.code Lib.objectInit ⟨#[0xb1]⟩ 1 none ∈ gT := List.mem_filter.mpr ⟨List.mem_append_right _ (List.mem_append_left _ (List.mem_of_getElem? (l := tables_1_1) (i := 16) rfl)), rfl⟩
theorem m17 : Cond.classLink "StreamSeal" 38 "StreamSeal$ChaCha20" ∈ gT := List.mem_filter.mpr ⟨List.mem_append_right _ (List.mem_append_left _ (List.mem_of_getElem? (l := tables_1_1) (i := 17) rfl)), rfl⟩
theorem m18 : Cond.instantiable "StreamSeal$ChaCha20" 2 ∈ gT := List.mem_filter.mpr ⟨List.mem_append_right _ (List.mem_append_left _ (List.mem_of_getElem? (l := tables_1_1) (i := 18) rfl)), rfl⟩
theorem m19 : Cond.methodLink "StreamSeal" 40 yC_init ∈ gT := List.mem_filter.mpr ⟨List.mem_append_right _ (List.mem_append_left _ (List.mem_of_getElem? (l := tables_1_1) (i := 19) rfl)), rfl⟩
theorem m20 : Cond.instanceMethod yC_init ∈ gT := List.mem_filter.mpr ⟨List.mem_append_right _ (List.mem_append_left _ (List.mem_of_getElem? (l := tables_1_1) (i := 20) rfl)), rfl⟩
theorem m21 : Cond.code yC_init prog_2_method_1_code 1 none ∈ gT := List.mem_filter.mpr ⟨List.mem_append_right _ (List.mem_append_left _ (List.mem_of_getElem? (l := tables_1_1) (i := 21) rfl)), rfl⟩
theorem m22 : Cond.methodLink "StreamSeal$ChaCha20" 1 Lib.objectInit ∈ gT := List.mem_filter.mpr ⟨List.mem_append_right _ (List.mem_append_left _ (List.mem_of_getElem? (l := tables_1_1) (i := 22) rfl)), rfl⟩
theorem m23 : Cond.fieldLink "StreamSeal$ChaCha20" 9 "StreamSeal$ChaCha20" "first" "[I" ∈ gT := List.mem_filter.mpr ⟨List.mem_append_right _ (List.mem_append_left _ (List.mem_of_getElem? (l := tables_1_1) (i := 23) rfl)), rfl⟩
theorem m24 : Cond.fieldLink "StreamSeal$ChaCha20" 13 "StreamSeal$ChaCha20" "mixed" "[I" ∈ gT := List.mem_filter.mpr ⟨List.mem_append_right _ (List.mem_append_left _ (List.mem_of_getElem? (l := tables_1_1) (i := 24) rfl)), rfl⟩
theorem m25 : Cond.laysFinal "StreamSeal$ChaCha20" "StreamSeal$ChaCha20" "first" "[I" ∈ gT := List.mem_filter.mpr ⟨List.mem_append_right _ (List.mem_append_left _ (List.mem_of_getElem? (l := tables_1_1) (i := 25) rfl)), rfl⟩
theorem m27 : Cond.laysFinal "StreamSeal$ChaCha20" "StreamSeal$ChaCha20" "mixed" "[I" ∈ gT := List.mem_filter.mpr ⟨List.mem_append_right _ (List.mem_append_left _ (List.mem_of_getElem? (l := tables_1_1) (i := 27) rfl)), rfl⟩
theorem m30 : Cond.arrayClass FieldType.byte ∈ gT := List.mem_filter.mpr ⟨List.mem_append_right _ (List.mem_append_left _ (List.mem_of_getElem? (l := tables_1_1) (i := 30) rfl)), rfl⟩
theorem m31 : Cond.arrayClass FieldType.int ∈ gT := List.mem_filter.mpr ⟨List.mem_append_right _ (List.mem_append_left _ (List.mem_of_getElem? (l := tables_1_1) (i := 31) rfl)), rfl⟩
theorem m32 : Cond.classLink "StreamSeal" 45 "StreamSeal$Poly1305" ∈ gT := List.mem_filter.mpr ⟨List.mem_append_right _ (List.mem_append_left _ (List.mem_of_getElem? (l := tables_1_1) (i := 32) rfl)), rfl⟩
theorem m33 : Cond.instantiable "StreamSeal$Poly1305" 6 ∈ gT := List.mem_filter.mpr ⟨List.mem_append_right _ (List.mem_append_left _ (List.mem_of_getElem? (l := tables_1_1) (i := 33) rfl)), rfl⟩
theorem m34 : Cond.methodLink "StreamSeal" 47 yP_init ∈ gT := List.mem_filter.mpr ⟨List.mem_append_right _ (List.mem_append_left _ (List.mem_of_getElem? (l := tables_1_1) (i := 34) rfl)), rfl⟩
theorem m35 : Cond.instanceMethod yP_init ∈ gT := List.mem_filter.mpr ⟨List.mem_append_right _ (List.mem_append_left _ (List.mem_of_getElem? (l := tables_1_1) (i := 35) rfl)), rfl⟩
theorem m36 : Cond.code yP_init prog_3_method_1_code 1 none ∈ gT := List.mem_filter.mpr ⟨List.mem_append_right _ (List.mem_append_left _ (List.mem_of_getElem? (l := tables_1_1) (i := 36) rfl)), rfl⟩
theorem m37 : Cond.methodLink "StreamSeal$Poly1305" 1 Lib.objectInit ∈ gT := List.mem_filter.mpr ⟨List.mem_append_right _ (List.mem_append_left _ (List.mem_of_getElem? (l := tables_1_1) (i := 37) rfl)), rfl⟩
theorem m38 : Cond.fieldLink "StreamSeal$Poly1305" 9 "StreamSeal$Poly1305" "factor" "[J" ∈ gT := List.mem_filter.mpr ⟨List.mem_append_right _ (List.mem_append_left _ (List.mem_of_getElem? (l := tables_1_1) (i := 38) rfl)), rfl⟩
theorem m39 : Cond.fieldLink "StreamSeal$Poly1305" 13 "StreamSeal$Poly1305" "total" "[J" ∈ gT := List.mem_filter.mpr ⟨List.mem_append_right _ (List.mem_append_left _ (List.mem_of_getElem? (l := tables_1_1) (i := 39) rfl)), rfl⟩
theorem m40 : Cond.fieldLink "StreamSeal$Poly1305" 16 "StreamSeal$Poly1305" "product" "[J" ∈ gT := List.mem_filter.mpr ⟨List.mem_append_right _ (List.mem_append_left _ (List.mem_of_getElem? (l := tables_1_1) (i := 40) rfl)), rfl⟩
theorem m41 : Cond.fieldLink "StreamSeal$Poly1305" 19 "StreamSeal$Poly1305" "words" "[J" ∈ gT := List.mem_filter.mpr ⟨List.mem_append_right _ (List.mem_append_left _ (List.mem_of_getElem? (l := tables_1_1) (i := 41) rfl)), rfl⟩
theorem m42 : Cond.fieldLink "StreamSeal$Poly1305" 22 "StreamSeal$Poly1305" "last" "[I" ∈ gT := List.mem_filter.mpr ⟨List.mem_append_right _ (List.mem_append_left _ (List.mem_of_getElem? (l := tables_1_1) (i := 42) rfl)), rfl⟩
theorem m43 : Cond.fieldLink "StreamSeal$Poly1305" 26 "StreamSeal$Poly1305" "block" "[B" ∈ gT := List.mem_filter.mpr ⟨List.mem_append_right _ (List.mem_append_left _ (List.mem_of_getElem? (l := tables_1_1) (i := 43) rfl)), rfl⟩
theorem m44 : Cond.laysFinal "StreamSeal$Poly1305" "StreamSeal$Poly1305" "factor" "[J" ∈ gT := List.mem_filter.mpr ⟨List.mem_append_right _ (List.mem_append_left _ (List.mem_of_getElem? (l := tables_1_1) (i := 44) rfl)), rfl⟩
theorem m46 : Cond.laysFinal "StreamSeal$Poly1305" "StreamSeal$Poly1305" "total" "[J" ∈ gT := List.mem_filter.mpr ⟨List.mem_append_right _ (List.mem_append_left _ (List.mem_of_getElem? (l := tables_1_1) (i := 46) rfl)), rfl⟩
theorem m48 : Cond.laysFinal "StreamSeal$Poly1305" "StreamSeal$Poly1305" "product" "[J" ∈ gT := List.mem_filter.mpr ⟨List.mem_append_right _ (List.mem_append_left _ (List.mem_of_getElem? (l := tables_1_1) (i := 48) rfl)), rfl⟩
theorem m50 : Cond.laysFinal "StreamSeal$Poly1305" "StreamSeal$Poly1305" "words" "[J" ∈ gT := List.mem_filter.mpr ⟨List.mem_append_right _ (List.mem_append_left _ (List.mem_of_getElem? (l := tables_1_1) (i := 50) rfl)), rfl⟩
theorem m52 : Cond.laysFinal "StreamSeal$Poly1305" "StreamSeal$Poly1305" "last" "[I" ∈ gT := List.mem_filter.mpr ⟨List.mem_append_right _ (List.mem_append_left _ (List.mem_of_getElem? (l := tables_1_1) (i := 52) rfl)), rfl⟩
theorem m54 : Cond.laysFinal "StreamSeal$Poly1305" "StreamSeal$Poly1305" "block" "[B" ∈ gT := List.mem_filter.mpr ⟨List.mem_append_right _ (List.mem_append_left _ (List.mem_of_getElem? (l := tables_1_1) (i := 54) rfl)), rfl⟩
theorem m57 : Cond.arrayClass FieldType.long ∈ gT := List.mem_filter.mpr ⟨List.mem_append_right _ (List.mem_append_left _ (List.mem_of_getElem? (l := tables_1_1) (i := 57) rfl)), rfl⟩
theorem m58 : Cond.classLink "StreamSeal" 52 "StreamSeal$Sha256" ∈ gT := List.mem_filter.mpr ⟨List.mem_append_right _ (List.mem_append_left _ (List.mem_of_getElem? (l := tables_1_1) (i := 58) rfl)), rfl⟩
theorem m59 : Cond.instantiable "StreamSeal$Sha256" 6 ∈ gT := List.mem_filter.mpr ⟨List.mem_append_right _ (List.mem_append_left _ (List.mem_of_getElem? (l := tables_1_1) (i := 59) rfl)), rfl⟩
theorem m60 : Cond.methodLink "StreamSeal" 54 yH_init ∈ gT := List.mem_filter.mpr ⟨List.mem_append_right _ (List.mem_append_left _ (List.mem_of_getElem? (l := tables_1_1) (i := 60) rfl)), rfl⟩
theorem m61 : Cond.instanceMethod yH_init ∈ gT := List.mem_filter.mpr ⟨List.mem_append_right _ (List.mem_append_left _ (List.mem_of_getElem? (l := tables_1_1) (i := 61) rfl)), rfl⟩
theorem m62 : Cond.code yH_init prog_4_method_1_code 1 none ∈ gT := List.mem_filter.mpr ⟨List.mem_append_right _ (List.mem_append_left _ (List.mem_of_getElem? (l := tables_1_1) (i := 62) rfl)), rfl⟩
theorem m63 : Cond.methodLink "StreamSeal$Sha256" 1 Lib.objectInit ∈ gT := List.mem_filter.mpr ⟨List.mem_append_right _ (List.mem_append_left _ (List.mem_of_getElem? (l := tables_1_1) (i := 63) rfl)), rfl⟩
theorem m64 : Cond.fieldLink "StreamSeal$Sha256" 9 "StreamSeal$Sha256" "state" "[I" ∈ gT := List.mem_filter.mpr ⟨List.mem_append_right _ (List.mem_append_left _ (List.mem_of_getElem? (l := tables_1_1) (i := 64) rfl)), rfl⟩
theorem m65 : Cond.fieldLink "StreamSeal$Sha256" 13 "StreamSeal$Sha256" "schedule" "[I" ∈ gT := List.mem_filter.mpr ⟨List.mem_append_right _ (List.mem_append_left _ (List.mem_of_getElem? (l := tables_1_1) (i := 65) rfl)), rfl⟩
theorem m66 : Cond.fieldLink "StreamSeal$Sha256" 16 "StreamSeal$Sha256" "round" "[I" ∈ gT := List.mem_filter.mpr ⟨List.mem_append_right _ (List.mem_append_left _ (List.mem_of_getElem? (l := tables_1_1) (i := 66) rfl)), rfl⟩
theorem m67 : Cond.fieldLink "StreamSeal$Sha256" 19 "StreamSeal$Sha256" "block" "[B" ∈ gT := List.mem_filter.mpr ⟨List.mem_append_right _ (List.mem_append_left _ (List.mem_of_getElem? (l := tables_1_1) (i := 67) rfl)), rfl⟩
theorem m68 : Cond.fieldLink "StreamSeal$Sha256" 23 "StreamSeal$Sha256" "filled" "I" ∈ gT := List.mem_filter.mpr ⟨List.mem_append_right _ (List.mem_append_left _ (List.mem_of_getElem? (l := tables_1_1) (i := 68) rfl)), rfl⟩
theorem m69 : Cond.fieldLink "StreamSeal$Sha256" 27 "StreamSeal$Sha256" "size" "I" ∈ gT := List.mem_filter.mpr ⟨List.mem_append_right _ (List.mem_append_left _ (List.mem_of_getElem? (l := tables_1_1) (i := 69) rfl)), rfl⟩
theorem m70 : Cond.laysFinal "StreamSeal$Sha256" "StreamSeal$Sha256" "state" "[I" ∈ gT := List.mem_filter.mpr ⟨List.mem_append_right _ (List.mem_append_left _ (List.mem_of_getElem? (l := tables_1_1) (i := 70) rfl)), rfl⟩
theorem m72 : Cond.laysFinal "StreamSeal$Sha256" "StreamSeal$Sha256" "schedule" "[I" ∈ gT := List.mem_filter.mpr ⟨List.mem_append_right _ (List.mem_append_left _ (List.mem_of_getElem? (l := tables_1_1) (i := 72) rfl)), rfl⟩
theorem m74 : Cond.laysFinal "StreamSeal$Sha256" "StreamSeal$Sha256" "round" "[I" ∈ gT := List.mem_filter.mpr ⟨List.mem_append_right _ (List.mem_append_left _ (List.mem_of_getElem? (l := tables_1_1) (i := 74) rfl)), rfl⟩
theorem m76 : Cond.laysFinal "StreamSeal$Sha256" "StreamSeal$Sha256" "block" "[B" ∈ gT := List.mem_filter.mpr ⟨List.mem_append_right _ (List.mem_append_left _ (List.mem_of_getElem? (l := tables_1_1) (i := 76) rfl)), rfl⟩
theorem m78 : Cond.lays "StreamSeal$Sha256" "StreamSeal$Sha256" "filled" "I" ∈ gT := List.mem_filter.mpr ⟨List.mem_append_right _ (List.mem_append_left _ (List.mem_of_getElem? (l := tables_1_1) (i := 78) rfl)), rfl⟩
theorem m80 : Cond.lays "StreamSeal$Sha256" "StreamSeal$Sha256" "size" "I" ∈ gT := List.mem_filter.mpr ⟨List.mem_append_right _ (List.mem_append_left _ (List.mem_of_getElem? (l := tables_1_1) (i := 80) rfl)), rfl⟩
theorem m83 : Cond.fieldLink "StreamSeal" 9 "StreamSeal" "tape" "[B" ∈ gT := List.mem_filter.mpr ⟨List.mem_append_right _ (List.mem_append_left _ (List.mem_of_getElem? (l := tables_1_1) (i := 83) rfl)), rfl⟩
theorem m84 : Cond.fieldLink "StreamSeal" 13 "StreamSeal" "tapeSize" "I" ∈ gT := List.mem_filter.mpr ⟨List.mem_append_right _ (List.mem_append_left _ (List.mem_of_getElem? (l := tables_1_1) (i := 84) rfl)), rfl⟩
theorem m85 : Cond.fieldLink "StreamSeal" 17 "StreamSeal" "out" "[B" ∈ gT := List.mem_filter.mpr ⟨List.mem_append_right _ (List.mem_append_left _ (List.mem_of_getElem? (l := tables_1_1) (i := 85) rfl)), rfl⟩
theorem m86 : Cond.fieldLink "StreamSeal" 20 "StreamSeal" "outSize" "I" ∈ gT := List.mem_filter.mpr ⟨List.mem_append_right _ (List.mem_append_left _ (List.mem_of_getElem? (l := tables_1_1) (i := 86) rfl)), rfl⟩
theorem m87 : Cond.fieldLink "StreamSeal" 23 "StreamSeal" "keyBytes" "[B" ∈ gT := List.mem_filter.mpr ⟨List.mem_append_right _ (List.mem_append_left _ (List.mem_of_getElem? (l := tables_1_1) (i := 87) rfl)), rfl⟩
theorem m88 : Cond.fieldLink "StreamSeal" 26 "StreamSeal" "nonceBytes" "[B" ∈ gT := List.mem_filter.mpr ⟨List.mem_append_right _ (List.mem_append_left _ (List.mem_of_getElem? (l := tables_1_1) (i := 88) rfl)), rfl⟩
theorem m89 : Cond.fieldLink "StreamSeal" 29 "StreamSeal" "streamBytes" "[B" ∈ gT := List.mem_filter.mpr ⟨List.mem_append_right _ (List.mem_append_left _ (List.mem_of_getElem? (l := tables_1_1) (i := 89) rfl)), rfl⟩
theorem m90 : Cond.fieldLink "StreamSeal" 32 "StreamSeal" "sizeBytes" "[B" ∈ gT := List.mem_filter.mpr ⟨List.mem_append_right _ (List.mem_append_left _ (List.mem_of_getElem? (l := tables_1_1) (i := 90) rfl)), rfl⟩
theorem m91 : Cond.fieldLink "StreamSeal" 35 "StreamSeal" "sumBytes" "[B" ∈ gT := List.mem_filter.mpr ⟨List.mem_append_right _ (List.mem_append_left _ (List.mem_of_getElem? (l := tables_1_1) (i := 91) rfl)), rfl⟩
theorem m92 : Cond.fieldLink "StreamSeal" 41 "StreamSeal" "streamer" "LStreamSeal$ChaCha20;" ∈ gT := List.mem_filter.mpr ⟨List.mem_append_right _ (List.mem_append_left _ (List.mem_of_getElem? (l := tables_1_1) (i := 92) rfl)), rfl⟩
theorem m93 : Cond.fieldLink "StreamSeal" 48 "StreamSeal" "summer" "LStreamSeal$Poly1305;" ∈ gT := List.mem_filter.mpr ⟨List.mem_append_right _ (List.mem_append_left _ (List.mem_of_getElem? (l := tables_1_1) (i := 93) rfl)), rfl⟩
theorem m94 : Cond.fieldLink "StreamSeal" 55 "StreamSeal" "digester" "LStreamSeal$Sha256;" ∈ gT := List.mem_filter.mpr ⟨List.mem_append_right _ (List.mem_append_left _ (List.mem_of_getElem? (l := tables_1_1) (i := 94) rfl)), rfl⟩
theorem m95 : Cond.laysFinal "StreamSeal" "StreamSeal" "tape" "[B" ∈ gT := List.mem_filter.mpr ⟨List.mem_append_right _ (List.mem_append_left _ (List.mem_of_getElem? (l := tables_1_1) (i := 95) rfl)), rfl⟩
theorem m97 : Cond.lays "StreamSeal" "StreamSeal" "tapeSize" "I" ∈ gT := List.mem_filter.mpr ⟨List.mem_append_right _ (List.mem_append_left _ (List.mem_of_getElem? (l := tables_1_1) (i := 97) rfl)), rfl⟩
theorem m99 : Cond.laysFinal "StreamSeal" "StreamSeal" "out" "[B" ∈ gT := List.mem_filter.mpr ⟨List.mem_append_right _ (List.mem_append_left _ (List.mem_of_getElem? (l := tables_1_1) (i := 99) rfl)), rfl⟩
theorem m101 : Cond.lays "StreamSeal" "StreamSeal" "outSize" "I" ∈ gT := List.mem_filter.mpr ⟨List.mem_append_right _ (List.mem_append_left _ (List.mem_of_getElem? (l := tables_1_1) (i := 101) rfl)), rfl⟩
theorem m103 : Cond.laysFinal "StreamSeal" "StreamSeal" "keyBytes" "[B" ∈ gT := List.mem_filter.mpr ⟨List.mem_append_right _ (List.mem_append_left _ (List.mem_of_getElem? (l := tables_1_1) (i := 103) rfl)), rfl⟩
theorem m105 : Cond.laysFinal "StreamSeal" "StreamSeal" "nonceBytes" "[B" ∈ gT := List.mem_filter.mpr ⟨List.mem_append_right _ (List.mem_append_left _ (List.mem_of_getElem? (l := tables_1_1) (i := 105) rfl)), rfl⟩
theorem m107 : Cond.laysFinal "StreamSeal" "StreamSeal" "streamBytes" "[B" ∈ gT := List.mem_filter.mpr ⟨List.mem_append_right _ (List.mem_append_left _ (List.mem_of_getElem? (l := tables_1_1) (i := 107) rfl)), rfl⟩
theorem m109 : Cond.laysFinal "StreamSeal" "StreamSeal" "sizeBytes" "[B" ∈ gT := List.mem_filter.mpr ⟨List.mem_append_right _ (List.mem_append_left _ (List.mem_of_getElem? (l := tables_1_1) (i := 109) rfl)), rfl⟩
theorem m111 : Cond.laysFinal "StreamSeal" "StreamSeal" "sumBytes" "[B" ∈ gT := List.mem_filter.mpr ⟨List.mem_append_right _ (List.mem_append_left _ (List.mem_of_getElem? (l := tables_1_1) (i := 111) rfl)), rfl⟩
theorem m113 : Cond.laysFinal "StreamSeal" "StreamSeal" "streamer" "LStreamSeal$ChaCha20;" ∈ gT := List.mem_filter.mpr ⟨List.mem_append_right _ (List.mem_append_left _ (List.mem_of_getElem? (l := tables_1_1) (i := 113) rfl)), rfl⟩
theorem m115 : Cond.laysFinal "StreamSeal" "StreamSeal" "summer" "LStreamSeal$Poly1305;" ∈ gT := List.mem_filter.mpr ⟨List.mem_append_right _ (List.mem_append_left _ (List.mem_of_getElem? (l := tables_1_1) (i := 115) rfl)), rfl⟩
theorem m117 : Cond.laysFinal "StreamSeal" "StreamSeal" "digester" "LStreamSeal$Sha256;" ∈ gT := List.mem_filter.mpr ⟨List.mem_append_right _ (List.mem_append_left _ (List.mem_of_getElem? (l := tables_1_1) (i := 117) rfl)), rfl⟩
theorem m120 : Cond.methodLink "StreamSealLaw" 13 yS_feed ∈ gT := List.mem_filter.mpr ⟨List.mem_append_right _ (List.mem_append_left _ (List.mem_of_getElem? (l := tables_1_1) (i := 120) rfl)), rfl⟩
theorem m121 : Cond.instanceMethod yS_feed ∈ gT := List.mem_filter.mpr ⟨List.mem_append_right _ (List.mem_append_left _ (List.mem_of_getElem? (l := tables_1_1) (i := 121) rfl)), rfl⟩
theorem m122 : Cond.selects "StreamSeal" yS_feed yS_feed ∈ gT := List.mem_filter.mpr ⟨List.mem_append_right _ (List.mem_append_left _ (List.mem_of_getElem? (l := tables_1_1) (i := 122) rfl)), rfl⟩
theorem m123 : Cond.code yS_feed prog_1_method_2_code 6 (some FieldType.int) ∈ gT := List.mem_filter.mpr ⟨List.mem_append_right _ (List.mem_append_left _ (List.mem_of_getElem? (l := tables_1_1) (i := 123) rfl)), rfl⟩
theorem m124 : Cond.methodLink "StreamSeal" 59 yS_writeHighestFirst ∈ gT := List.mem_filter.mpr ⟨List.mem_append_right _ (List.mem_append_left _ (List.mem_of_getElem? (l := tables_1_1) (i := 124) rfl)), rfl⟩
theorem m125 : Cond.static yS_writeHighestFirst ∈ gT := List.mem_filter.mpr ⟨List.mem_append_right _ (List.mem_append_left _ (List.mem_of_getElem? (l := tables_1_1) (i := 125) rfl)), rfl⟩
theorem m126 : Cond.code yS_writeHighestFirst prog_1_method_18_code 3 none ∈ gT := List.mem_filter.mpr ⟨List.mem_append_right _ (List.mem_append_left _ (List.mem_of_getElem? (l := tables_1_1) (i := 126) rfl)), rfl⟩
theorem m127 : Cond.methodLink "StreamSealLaw" 18 yS_end ∈ gT := List.mem_filter.mpr ⟨List.mem_append_right _ (List.mem_append_left _ (List.mem_of_getElem? (l := tables_1_1) (i := 127) rfl)), rfl⟩
theorem m128 : Cond.instanceMethod yS_end ∈ gT := List.mem_filter.mpr ⟨List.mem_append_right _ (List.mem_append_left _ (List.mem_of_getElem? (l := tables_1_1) (i := 128) rfl)), rfl⟩
theorem m129 : Cond.selects "StreamSeal" yS_end yS_end ∈ gT := List.mem_filter.mpr ⟨List.mem_append_right _ (List.mem_append_left _ (List.mem_of_getElem? (l := tables_1_1) (i := 129) rfl)), rfl⟩
theorem m130 : Cond.code yS_end prog_1_method_3_code 2 (some FieldType.int) ∈ gT := List.mem_filter.mpr ⟨List.mem_append_right _ (List.mem_append_left _ (List.mem_of_getElem? (l := tables_1_1) (i := 130) rfl)), rfl⟩
theorem m131 : Cond.methodLink "StreamSeal" 63 yS_tapeReaches ∈ gT := List.mem_filter.mpr ⟨List.mem_append_right _ (List.mem_append_left _ (List.mem_of_getElem? (l := tables_1_1) (i := 131) rfl)), rfl⟩
theorem m133 : Cond.instanceMethod yS_tapeReaches ∈ gT := List.mem_filter.mpr ⟨List.mem_append_right _ (List.mem_append_left _ (List.mem_of_getElem? (l := tables_1_1) (i := 133) rfl)), rfl⟩
theorem m134 : Cond.code yS_tapeReaches prog_1_method_14_code 2 (some FieldType.boolean) ∈ gT := List.mem_filter.mpr ⟨List.mem_append_right _ (List.mem_append_left _ (List.mem_of_getElem? (l := tables_1_1) (i := 134) rfl)), rfl⟩
theorem m135 : Cond.methodLink "StreamSealLaw" 23 yS_take ∈ gT := List.mem_filter.mpr ⟨List.mem_append_right _ (List.mem_append_left _ (List.mem_of_getElem? (l := tables_1_1) (i := 135) rfl)), rfl⟩
theorem m136 : Cond.instanceMethod yS_take ∈ gT := List.mem_filter.mpr ⟨List.mem_append_right _ (List.mem_append_left _ (List.mem_of_getElem? (l := tables_1_1) (i := 136) rfl)), rfl⟩
theorem m137 : Cond.selects "StreamSeal" yS_take yS_take ∈ gT := List.mem_filter.mpr ⟨List.mem_append_right _ (List.mem_append_left _ (List.mem_of_getElem? (l := tables_1_1) (i := 137) rfl)), rfl⟩
theorem m138 : Cond.code yS_take prog_1_method_4_code 2 (some FieldType.int) ∈ gT := List.mem_filter.mpr ⟨List.mem_append_right _ (List.mem_append_left _ (List.mem_of_getElem? (l := tables_1_1) (i := 138) rfl)), rfl⟩
theorem m139 : Cond.methodLink "StreamSeal" 67 arraycopyName ∈ gT := List.mem_filter.mpr ⟨List.mem_append_right _ (List.mem_append_left _ (List.mem_of_getElem? (l := tables_1_1) (i := 139) rfl)), rfl⟩
theorem m140 : Cond.static arraycopyName ∈ gT := List.mem_filter.mpr ⟨List.mem_append_right _ (List.mem_append_left _ (List.mem_of_getElem? (l := tables_1_1) (i := 140) rfl)), rfl⟩
theorem m141 : Cond.native arraycopyName ∈ gT := List.mem_filter.mpr ⟨List.mem_append_right _ (List.mem_append_left _ (List.mem_of_getElem? (l := tables_1_1) (i := 141) rfl)), rfl⟩
theorem m142 : Cond.methodLink "StreamSealLaw" 27 yS_key ∈ gT := List.mem_filter.mpr ⟨List.mem_append_right _ (List.mem_append_left _ (List.mem_of_getElem? (l := tables_1_1) (i := 142) rfl)), rfl⟩
theorem m143 : Cond.instanceMethod yS_key ∈ gT := List.mem_filter.mpr ⟨List.mem_append_right _ (List.mem_append_left _ (List.mem_of_getElem? (l := tables_1_1) (i := 143) rfl)), rfl⟩
theorem m144 : Cond.selects "StreamSeal" yS_key yS_key ∈ gT := List.mem_filter.mpr ⟨List.mem_append_right _ (List.mem_append_left _ (List.mem_of_getElem? (l := tables_1_1) (i := 144) rfl)), rfl⟩
theorem m145 : Cond.code yS_key prog_1_method_5_code 2 (some FieldType.int) ∈ gT := List.mem_filter.mpr ⟨List.mem_append_right _ (List.mem_append_left _ (List.mem_of_getElem? (l := tables_1_1) (i := 145) rfl)), rfl⟩
theorem m146 : Cond.methodLink "StreamSealLaw" 34 yS_nonce ∈ gT := List.mem_filter.mpr ⟨List.mem_append_right _ (List.mem_append_left _ (List.mem_of_getElem? (l := tables_1_1) (i := 146) rfl)), rfl⟩
theorem m147 : Cond.instanceMethod yS_nonce ∈ gT := List.mem_filter.mpr ⟨List.mem_append_right _ (List.mem_append_left _ (List.mem_of_getElem? (l := tables_1_1) (i := 147) rfl)), rfl⟩
theorem m148 : Cond.selects "StreamSeal" yS_nonce yS_nonce ∈ gT := List.mem_filter.mpr ⟨List.mem_append_right _ (List.mem_append_left _ (List.mem_of_getElem? (l := tables_1_1) (i := 148) rfl)), rfl⟩
theorem m149 : Cond.code yS_nonce prog_1_method_6_code 4 none ∈ gT := List.mem_filter.mpr ⟨List.mem_append_right _ (List.mem_append_left _ (List.mem_of_getElem? (l := tables_1_1) (i := 149) rfl)), rfl⟩
theorem m150 : Cond.methodLink "StreamSealLaw" 39 yS_stream ∈ gT := List.mem_filter.mpr ⟨List.mem_append_right _ (List.mem_append_left _ (List.mem_of_getElem? (l := tables_1_1) (i := 150) rfl)), rfl⟩
theorem m151 : Cond.instanceMethod yS_stream ∈ gT := List.mem_filter.mpr ⟨List.mem_append_right _ (List.mem_append_left _ (List.mem_of_getElem? (l := tables_1_1) (i := 151) rfl)), rfl⟩
theorem m152 : Cond.selects "StreamSeal" yS_stream yS_stream ∈ gT := List.mem_filter.mpr ⟨List.mem_append_right _ (List.mem_append_left _ (List.mem_of_getElem? (l := tables_1_1) (i := 152) rfl)), rfl⟩
theorem m153 : Cond.code yS_stream prog_1_method_7_code 2 (some FieldType.int) ∈ gT := List.mem_filter.mpr ⟨List.mem_append_right _ (List.mem_append_left _ (List.mem_of_getElem? (l := tables_1_1) (i := 153) rfl)), rfl⟩
theorem m154 : Cond.methodLink "StreamSeal" 73 yC_fill ∈ gT := List.mem_filter.mpr ⟨List.mem_append_right _ (List.mem_append_left _ (List.mem_of_getElem? (l := tables_1_1) (i := 154) rfl)), rfl⟩
theorem m155 : Cond.instanceMethod yC_fill ∈ gT := List.mem_filter.mpr ⟨List.mem_append_right _ (List.mem_append_left _ (List.mem_of_getElem? (l := tables_1_1) (i := 155) rfl)), rfl⟩
theorem m156 : Cond.selects "StreamSeal$ChaCha20" yC_fill yC_fill ∈ gT := List.mem_filter.mpr ⟨List.mem_append_right _ (List.mem_append_left _ (List.mem_of_getElem? (l := tables_1_1) (i := 156) rfl)), rfl⟩
theorem m157 : Cond.code yC_fill prog_2_method_2_code 6 none ∈ gT := List.mem_filter.mpr ⟨List.mem_append_right _ (List.mem_append_left _ (List.mem_of_getElem? (l := tables_1_1) (i := 157) rfl)), rfl⟩
theorem m158 : Cond.methodLink "StreamSeal$ChaCha20" 16 yC_lay ∈ gT := List.mem_filter.mpr ⟨List.mem_append_right _ (List.mem_append_left _ (List.mem_of_getElem? (l := tables_1_1) (i := 158) rfl)), rfl⟩
theorem m160 : Cond.instanceMethod yC_lay ∈ gT := List.mem_filter.mpr ⟨List.mem_append_right _ (List.mem_append_left _ (List.mem_of_getElem? (l := tables_1_1) (i := 160) rfl)), rfl⟩
theorem m161 : Cond.code yC_lay prog_2_method_3_code 5 none ∈ gT := List.mem_filter.mpr ⟨List.mem_append_right _ (List.mem_append_left _ (List.mem_of_getElem? (l := tables_1_1) (i := 161) rfl)), rfl⟩
theorem m162 : Cond.constant "StreamSeal$ChaCha20" 38 1634760805 ∈ gT := List.mem_filter.mpr ⟨List.mem_append_right _ (List.mem_append_left _ (List.mem_of_getElem? (l := tables_1_1) (i := 162) rfl)), rfl⟩
theorem m163 : Cond.constant "StreamSeal$ChaCha20" 39 857760878 ∈ gT := List.mem_filter.mpr ⟨List.mem_append_right _ (List.mem_append_left _ (List.mem_of_getElem? (l := tables_1_1) (i := 163) rfl)), rfl⟩
theorem m164 : Cond.constant "StreamSeal$ChaCha20" 40 2036477234 ∈ gT := List.mem_filter.mpr ⟨List.mem_append_right _ (List.mem_append_left _ (List.mem_of_getElem? (l := tables_1_1) (i := 164) rfl)), rfl⟩
theorem m165 : Cond.constant "StreamSeal$ChaCha20" 41 1797285236 ∈ gT := List.mem_filter.mpr ⟨List.mem_append_right _ (List.mem_append_left _ (List.mem_of_getElem? (l := tables_1_1) (i := 165) rfl)), rfl⟩
theorem m167 : Cond.static yS_readLowestFirst ∈ gT := List.mem_filter.mpr ⟨List.mem_append_right _ (List.mem_append_left _ (List.mem_of_getElem? (l := tables_1_1) (i := 167) rfl)), rfl⟩
theorem m168 : Cond.code yS_readLowestFirst prog_1_method_21_code 2 (some FieldType.int) ∈ gT := List.mem_filter.mpr ⟨List.mem_append_right _ (List.mem_append_left _ (List.mem_of_getElem? (l := tables_1_1) (i := 168) rfl)), rfl⟩
theorem m169 : Cond.methodLink "StreamSeal$ChaCha20" 20 arraycopyName ∈ gT := List.mem_filter.mpr ⟨List.mem_append_right _ (List.mem_append_left _ (List.mem_of_getElem? (l := tables_1_1) (i := 169) rfl)), rfl⟩
theorem m170 : Cond.methodLink "StreamSeal$ChaCha20" 26 yC_mixColumns ∈ gT := List.mem_filter.mpr ⟨List.mem_append_right _ (List.mem_append_left _ (List.mem_of_getElem? (l := tables_1_1) (i := 170) rfl)), rfl⟩
theorem m172 : Cond.instanceMethod yC_mixColumns ∈ gT := List.mem_filter.mpr ⟨List.mem_append_right _ (List.mem_append_left _ (List.mem_of_getElem? (l := tables_1_1) (i := 172) rfl)), rfl⟩
theorem m173 : Cond.code yC_mixColumns prog_2_method_4_code 1 none ∈ gT := List.mem_filter.mpr ⟨List.mem_append_right _ (List.mem_append_left _ (List.mem_of_getElem? (l := tables_1_1) (i := 173) rfl)), rfl⟩
theorem m174 : Cond.methodLink "StreamSeal$ChaCha20" 46 yC_mixQuarter ∈ gT := List.mem_filter.mpr ⟨List.mem_append_right _ (List.mem_append_left _ (List.mem_of_getElem? (l := tables_1_1) (i := 174) rfl)), rfl⟩
theorem m176 : Cond.instanceMethod yC_mixQuarter ∈ gT := List.mem_filter.mpr ⟨List.mem_append_right _ (List.mem_append_left _ (List.mem_of_getElem? (l := tables_1_1) (i := 176) rfl)), rfl⟩
theorem m177 : Cond.code yC_mixQuarter prog_2_method_6_code 5 none ∈ gT := List.mem_filter.mpr ⟨List.mem_append_right _ (List.mem_append_left _ (List.mem_of_getElem? (l := tables_1_1) (i := 177) rfl)), rfl⟩
theorem m179 : Cond.static yS_turnLeft ∈ gT := List.mem_filter.mpr ⟨List.mem_append_right _ (List.mem_append_left _ (List.mem_of_getElem? (l := tables_1_1) (i := 179) rfl)), rfl⟩
theorem m180 : Cond.code yS_turnLeft prog_1_method_22_code 2 (some FieldType.int) ∈ gT := List.mem_filter.mpr ⟨List.mem_append_right _ (List.mem_append_left _ (List.mem_of_getElem? (l := tables_1_1) (i := 180) rfl)), rfl⟩
theorem m181 : Cond.methodLink "StreamSeal$ChaCha20" 29 yC_mixDiagonals ∈ gT := List.mem_filter.mpr ⟨List.mem_append_right _ (List.mem_append_left _ (List.mem_of_getElem? (l := tables_1_1) (i := 181) rfl)), rfl⟩
theorem m183 : Cond.instanceMethod yC_mixDiagonals ∈ gT := List.mem_filter.mpr ⟨List.mem_append_right _ (List.mem_append_left _ (List.mem_of_getElem? (l := tables_1_1) (i := 183) rfl)), rfl⟩
theorem m184 : Cond.code yC_mixDiagonals prog_2_method_5_code 1 none ∈ gT := List.mem_filter.mpr ⟨List.mem_append_right _ (List.mem_append_left _ (List.mem_of_getElem? (l := tables_1_1) (i := 184) rfl)), rfl⟩
theorem m186 : Cond.static yS_writeLowestFirst ∈ gT := List.mem_filter.mpr ⟨List.mem_append_right _ (List.mem_append_left _ (List.mem_of_getElem? (l := tables_1_1) (i := 186) rfl)), rfl⟩
theorem m187 : Cond.code yS_writeLowestFirst prog_1_method_19_code 3 none ∈ gT := List.mem_filter.mpr ⟨List.mem_append_right _ (List.mem_append_left _ (List.mem_of_getElem? (l := tables_1_1) (i := 187) rfl)), rfl⟩
theorem m188 : Cond.methodLink "StreamSealLaw" 43 yS_sum ∈ gT := List.mem_filter.mpr ⟨List.mem_append_right _ (List.mem_append_left _ (List.mem_of_getElem? (l := tables_1_1) (i := 188) rfl)), rfl⟩
theorem m189 : Cond.instanceMethod yS_sum ∈ gT := List.mem_filter.mpr ⟨List.mem_append_right _ (List.mem_append_left _ (List.mem_of_getElem? (l := tables_1_1) (i := 189) rfl)), rfl⟩
theorem m190 : Cond.selects "StreamSeal" yS_sum yS_sum ∈ gT := List.mem_filter.mpr ⟨List.mem_append_right _ (List.mem_append_left _ (List.mem_of_getElem? (l := tables_1_1) (i := 190) rfl)), rfl⟩
theorem m191 : Cond.code yS_sum prog_1_method_8_code 1 (some FieldType.int) ∈ gT := List.mem_filter.mpr ⟨List.mem_append_right _ (List.mem_append_left _ (List.mem_of_getElem? (l := tables_1_1) (i := 191) rfl)), rfl⟩
theorem m192 : Cond.methodLink "StreamSeal" 77 yP_start ∈ gT := List.mem_filter.mpr ⟨List.mem_append_right _ (List.mem_append_left _ (List.mem_of_getElem? (l := tables_1_1) (i := 192) rfl)), rfl⟩
theorem m193 : Cond.instanceMethod yP_start ∈ gT := List.mem_filter.mpr ⟨List.mem_append_right _ (List.mem_append_left _ (List.mem_of_getElem? (l := tables_1_1) (i := 193) rfl)), rfl⟩
theorem m194 : Cond.selects "StreamSeal$Poly1305" yP_start yP_start ∈ gT := List.mem_filter.mpr ⟨List.mem_append_right _ (List.mem_append_left _ (List.mem_of_getElem? (l := tables_1_1) (i := 194) rfl)), rfl⟩
theorem m195 : Cond.code yP_start prog_3_method_2_code 3 none ∈ gT := List.mem_filter.mpr ⟨List.mem_append_right _ (List.mem_append_left _ (List.mem_of_getElem? (l := tables_1_1) (i := 195) rfl)), rfl⟩
theorem m196 : Cond.methodLink "StreamSeal$Poly1305" 30 arraycopyName ∈ gT := List.mem_filter.mpr ⟨List.mem_append_right _ (List.mem_append_left _ (List.mem_of_getElem? (l := tables_1_1) (i := 196) rfl)), rfl⟩
theorem m197 : Cond.methodLink "StreamSeal$Poly1305" 36 yP_clampBlock ∈ gT := List.mem_filter.mpr ⟨List.mem_append_right _ (List.mem_append_left _ (List.mem_of_getElem? (l := tables_1_1) (i := 197) rfl)), rfl⟩
theorem m199 : Cond.instanceMethod yP_clampBlock ∈ gT := List.mem_filter.mpr ⟨List.mem_append_right _ (List.mem_append_left _ (List.mem_of_getElem? (l := tables_1_1) (i := 199) rfl)), rfl⟩
theorem m200 : Cond.code yP_clampBlock prog_3_method_6_code 2 none ∈ gT := List.mem_filter.mpr ⟨List.mem_append_right _ (List.mem_append_left _ (List.mem_of_getElem? (l := tables_1_1) (i := 200) rfl)), rfl⟩
theorem m201 : Cond.methodLink "StreamSeal$Poly1305" 39 yP_blockPart ∈ gT := List.mem_filter.mpr ⟨List.mem_append_right _ (List.mem_append_left _ (List.mem_of_getElem? (l := tables_1_1) (i := 201) rfl)), rfl⟩
theorem m203 : Cond.instanceMethod yP_blockPart ∈ gT := List.mem_filter.mpr ⟨List.mem_append_right _ (List.mem_append_left _ (List.mem_of_getElem? (l := tables_1_1) (i := 203) rfl)), rfl⟩
theorem m204 : Cond.code yP_blockPart prog_3_method_7_code 4 (some FieldType.long) ∈ gT := List.mem_filter.mpr ⟨List.mem_append_right _ (List.mem_append_left _ (List.mem_of_getElem? (l := tables_1_1) (i := 204) rfl)), rfl⟩
theorem m206 : Cond.constantLong "StreamSeal$Poly1305" 65 4294967295 ∈ gT := List.mem_filter.mpr ⟨List.mem_append_right _ (List.mem_append_left _ (List.mem_of_getElem? (l := tables_1_1) (i := 206) rfl)), rfl⟩
theorem m207 : Cond.constantLong "StreamSeal$Poly1305" 71 67108863 ∈ gT := List.mem_filter.mpr ⟨List.mem_append_right _ (List.mem_append_left _ (List.mem_of_getElem? (l := tables_1_1) (i := 207) rfl)), rfl⟩
theorem m208 : Cond.methodLink "StreamSeal" 81 yP_add ∈ gT := List.mem_filter.mpr ⟨List.mem_append_right _ (List.mem_append_left _ (List.mem_of_getElem? (l := tables_1_1) (i := 208) rfl)), rfl⟩
theorem m209 : Cond.instanceMethod yP_add ∈ gT := List.mem_filter.mpr ⟨List.mem_append_right _ (List.mem_append_left _ (List.mem_of_getElem? (l := tables_1_1) (i := 209) rfl)), rfl⟩
theorem m210 : Cond.selects "StreamSeal$Poly1305" yP_add yP_add ∈ gT := List.mem_filter.mpr ⟨List.mem_append_right _ (List.mem_append_left _ (List.mem_of_getElem? (l := tables_1_1) (i := 210) rfl)), rfl⟩
theorem m211 : Cond.code yP_add prog_3_method_3_code 6 none ∈ gT := List.mem_filter.mpr ⟨List.mem_append_right _ (List.mem_append_left _ (List.mem_of_getElem? (l := tables_1_1) (i := 211) rfl)), rfl⟩
theorem m212 : Cond.methodLink "StreamSeal$Poly1305" 49 Lib.Math.min.name ∈ gT := List.mem_filter.mpr ⟨List.mem_append_right _ (List.mem_append_left _ (List.mem_of_getElem? (l := tables_1_1) (i := 212) rfl)), rfl⟩
theorem m213 : Cond.static Lib.Math.min.name ∈ gT := List.mem_filter.mpr ⟨List.mem_append_right _ (List.mem_append_left _ (List.mem_of_getElem? (l := tables_1_1) (i := 213) rfl)), rfl⟩
theorem m214 : Cond.code Lib.Math.min.name Lib.Math.min.code 2 (some FieldType.int) ∈ gT := List.mem_filter.mpr ⟨List.mem_append_right _ (List.mem_append_left _ (List.mem_of_getElem? (l := tables_1_1) (i := 214) rfl)), rfl⟩
theorem m215 : Cond.methodLink "StreamSeal$Poly1305" 55 yP_addBlock ∈ gT := List.mem_filter.mpr ⟨List.mem_append_right _ (List.mem_append_left _ (List.mem_of_getElem? (l := tables_1_1) (i := 215) rfl)), rfl⟩
theorem m217 : Cond.instanceMethod yP_addBlock ∈ gT := List.mem_filter.mpr ⟨List.mem_append_right _ (List.mem_append_left _ (List.mem_of_getElem? (l := tables_1_1) (i := 217) rfl)), rfl⟩
theorem m218 : Cond.code yP_addBlock prog_3_method_8_code 6 none ∈ gT := List.mem_filter.mpr ⟨List.mem_append_right _ (List.mem_append_left _ (List.mem_of_getElem? (l := tables_1_1) (i := 218) rfl)), rfl⟩
theorem m219 : Cond.methodLink "StreamSeal$Poly1305" 73 yA_fill ∈ gT := List.mem_filter.mpr ⟨List.mem_append_right _ (List.mem_append_left _ (List.mem_of_getElem? (l := tables_1_1) (i := 219) rfl)), rfl⟩
theorem m220 : Cond.static yA_fill ∈ gT := List.mem_filter.mpr ⟨List.mem_append_right _ (List.mem_append_left _ (List.mem_of_getElem? (l := tables_1_1) (i := 220) rfl)), rfl⟩
theorem m221 : Cond.code yA_fill prog_9_method_109_code 4 none ∈ gT := List.mem_filter.mpr ⟨List.mem_append_right _ (List.mem_append_left _ (List.mem_of_getElem? (l := tables_1_1) (i := 221) rfl)), rfl⟩
theorem m222 : Cond.methodLink "StreamSeal$Poly1305" 79 yP_multiply ∈ gT := List.mem_filter.mpr ⟨List.mem_append_right _ (List.mem_append_left _ (List.mem_of_getElem? (l := tables_1_1) (i := 222) rfl)), rfl⟩
theorem m224 : Cond.instanceMethod yP_multiply ∈ gT := List.mem_filter.mpr ⟨List.mem_append_right _ (List.mem_append_left _ (List.mem_of_getElem? (l := tables_1_1) (i := 224) rfl)), rfl⟩
theorem m225 : Cond.code yP_multiply prog_3_method_9_code 7 none ∈ gT := List.mem_filter.mpr ⟨List.mem_append_right _ (List.mem_append_left _ (List.mem_of_getElem? (l := tables_1_1) (i := 225) rfl)), rfl⟩
theorem m226 : Cond.constantLong "StreamSeal$Poly1305" 82 5 ∈ gT := List.mem_filter.mpr ⟨List.mem_append_right _ (List.mem_append_left _ (List.mem_of_getElem? (l := tables_1_1) (i := 226) rfl)), rfl⟩
theorem m227 : Cond.methodLink "StreamSeal$Poly1305" 59 yP_carry ∈ gT := List.mem_filter.mpr ⟨List.mem_append_right _ (List.mem_append_left _ (List.mem_of_getElem? (l := tables_1_1) (i := 227) rfl)), rfl⟩
theorem m229 : Cond.instanceMethod yP_carry ∈ gT := List.mem_filter.mpr ⟨List.mem_append_right _ (List.mem_append_left _ (List.mem_of_getElem? (l := tables_1_1) (i := 229) rfl)), rfl⟩
theorem m230 : Cond.code yP_carry prog_3_method_10_code 6 none ∈ gT := List.mem_filter.mpr ⟨List.mem_append_right _ (List.mem_append_left _ (List.mem_of_getElem? (l := tables_1_1) (i := 230) rfl)), rfl⟩
theorem m231 : Cond.methodLink "StreamSeal" 84 yP_finish ∈ gT := List.mem_filter.mpr ⟨List.mem_append_right _ (List.mem_append_left _ (List.mem_of_getElem? (l := tables_1_1) (i := 231) rfl)), rfl⟩
theorem m232 : Cond.instanceMethod yP_finish ∈ gT := List.mem_filter.mpr ⟨List.mem_append_right _ (List.mem_append_left _ (List.mem_of_getElem? (l := tables_1_1) (i := 232) rfl)), rfl⟩
theorem m233 : Cond.selects "StreamSeal$Poly1305" yP_finish yP_finish ∈ gT := List.mem_filter.mpr ⟨List.mem_append_right _ (List.mem_append_left _ (List.mem_of_getElem? (l := tables_1_1) (i := 233) rfl)), rfl⟩
theorem m234 : Cond.code yP_finish prog_3_method_5_code 6 none ∈ gT := List.mem_filter.mpr ⟨List.mem_append_right _ (List.mem_append_left _ (List.mem_of_getElem? (l := tables_1_1) (i := 234) rfl)), rfl⟩
theorem m235 : Cond.methodLink "StreamSeal$Poly1305" 62 yP_takePrimeOff ∈ gT := List.mem_filter.mpr ⟨List.mem_append_right _ (List.mem_append_left _ (List.mem_of_getElem? (l := tables_1_1) (i := 235) rfl)), rfl⟩
theorem m237 : Cond.instanceMethod yP_takePrimeOff ∈ gT := List.mem_filter.mpr ⟨List.mem_append_right _ (List.mem_append_left _ (List.mem_of_getElem? (l := tables_1_1) (i := 237) rfl)), rfl⟩
theorem m238 : Cond.code yP_takePrimeOff prog_3_method_11_code 6 none ∈ gT := List.mem_filter.mpr ⟨List.mem_append_right _ (List.mem_append_left _ (List.mem_of_getElem? (l := tables_1_1) (i := 238) rfl)), rfl⟩
theorem m240 : Cond.methodLink "StreamSealLaw" 47 yS_seal ∈ gT := List.mem_filter.mpr ⟨List.mem_append_right _ (List.mem_append_right _ (List.mem_append_left _ (List.mem_of_getElem? (l := tables_1_2) (i := 0) rfl))), rfl⟩
theorem m241 : Cond.instanceMethod yS_seal ∈ gT := List.mem_filter.mpr ⟨List.mem_append_right _ (List.mem_append_right _ (List.mem_append_left _ (List.mem_of_getElem? (l := tables_1_2) (i := 1) rfl))), rfl⟩
theorem m242 : Cond.selects "StreamSeal" yS_seal yS_seal ∈ gT := List.mem_filter.mpr ⟨List.mem_append_right _ (List.mem_append_right _ (List.mem_append_left _ (List.mem_of_getElem? (l := tables_1_2) (i := 2) rfl))), rfl⟩
theorem m243 : Cond.code yS_seal prog_1_method_9_code 3 (some FieldType.int) ∈ gT := List.mem_filter.mpr ⟨List.mem_append_right _ (List.mem_append_right _ (List.mem_append_left _ (List.mem_of_getElem? (l := tables_1_2) (i := 3) rfl))), rfl⟩
theorem m244 : Cond.methodLink "StreamSeal" 88 yS_streamTapeToOut ∈ gT := List.mem_filter.mpr ⟨List.mem_append_right _ (List.mem_append_right _ (List.mem_append_left _ (List.mem_of_getElem? (l := tables_1_2) (i := 4) rfl))), rfl⟩
theorem m246 : Cond.instanceMethod yS_streamTapeToOut ∈ gT := List.mem_filter.mpr ⟨List.mem_append_right _ (List.mem_append_right _ (List.mem_append_left _ (List.mem_of_getElem? (l := tables_1_2) (i := 6) rfl))), rfl⟩
theorem m247 : Cond.code yS_streamTapeToOut prog_1_method_15_code 7 none ∈ gT := List.mem_filter.mpr ⟨List.mem_append_right _ (List.mem_append_right _ (List.mem_append_left _ (List.mem_of_getElem? (l := tables_1_2) (i := 7) rfl))), rfl⟩
theorem m248 : Cond.methodLink "StreamSeal" 108 Lib.Math.min.name ∈ gT := List.mem_filter.mpr ⟨List.mem_append_right _ (List.mem_append_right _ (List.mem_append_left _ (List.mem_of_getElem? (l := tables_1_2) (i := 8) rfl))), rfl⟩
theorem m249 : Cond.methodLink "StreamSeal" 92 yS_sumSealed ∈ gT := List.mem_filter.mpr ⟨List.mem_append_right _ (List.mem_append_right _ (List.mem_append_left _ (List.mem_of_getElem? (l := tables_1_2) (i := 9) rfl))), rfl⟩
theorem m251 : Cond.instanceMethod yS_sumSealed ∈ gT := List.mem_filter.mpr ⟨List.mem_append_right _ (List.mem_append_right _ (List.mem_append_left _ (List.mem_of_getElem? (l := tables_1_2) (i := 11) rfl))), rfl⟩
theorem m252 : Cond.code yS_sumSealed prog_1_method_16_code 5 none ∈ gT := List.mem_filter.mpr ⟨List.mem_append_right _ (List.mem_append_right _ (List.mem_append_left _ (List.mem_of_getElem? (l := tables_1_2) (i := 12) rfl))), rfl⟩
theorem m253 : Cond.methodLink "StreamSeal" 114 yP_addPadded ∈ gT := List.mem_filter.mpr ⟨List.mem_append_right _ (List.mem_append_right _ (List.mem_append_left _ (List.mem_of_getElem? (l := tables_1_2) (i := 13) rfl))), rfl⟩
theorem m254 : Cond.instanceMethod yP_addPadded ∈ gT := List.mem_filter.mpr ⟨List.mem_append_right _ (List.mem_append_right _ (List.mem_append_left _ (List.mem_of_getElem? (l := tables_1_2) (i := 14) rfl))), rfl⟩
theorem m255 : Cond.selects "StreamSeal$Poly1305" yP_addPadded yP_addPadded ∈ gT := List.mem_filter.mpr ⟨List.mem_append_right _ (List.mem_append_right _ (List.mem_append_left _ (List.mem_of_getElem? (l := tables_1_2) (i := 15) rfl))), rfl⟩
theorem m256 : Cond.code yP_addPadded prog_3_method_4_code 5 none ∈ gT := List.mem_filter.mpr ⟨List.mem_append_right _ (List.mem_append_right _ (List.mem_append_left _ (List.mem_of_getElem? (l := tables_1_2) (i := 16) rfl))), rfl⟩
theorem m257 : Cond.methodLink "StreamSeal" 117 yS_writeLowestFirst ∈ gT := List.mem_filter.mpr ⟨List.mem_append_right _ (List.mem_append_right _ (List.mem_append_left _ (List.mem_of_getElem? (l := tables_1_2) (i := 17) rfl))), rfl⟩
theorem m258 : Cond.methodLink "StreamSealLaw" 51 yS_open ∈ gT := List.mem_filter.mpr ⟨List.mem_append_right _ (List.mem_append_right _ (List.mem_append_left _ (List.mem_of_getElem? (l := tables_1_2) (i := 18) rfl))), rfl⟩
theorem m259 : Cond.instanceMethod yS_open ∈ gT := List.mem_filter.mpr ⟨List.mem_append_right _ (List.mem_append_right _ (List.mem_append_left _ (List.mem_of_getElem? (l := tables_1_2) (i := 19) rfl))), rfl⟩
theorem m260 : Cond.selects "StreamSeal" yS_open yS_open ∈ gT := List.mem_filter.mpr ⟨List.mem_append_right _ (List.mem_append_right _ (List.mem_append_left _ (List.mem_of_getElem? (l := tables_1_2) (i := 20) rfl))), rfl⟩
theorem m261 : Cond.code yS_open prog_1_method_10_code 3 (some FieldType.int) ∈ gT := List.mem_filter.mpr ⟨List.mem_append_right _ (List.mem_append_right _ (List.mem_append_left _ (List.mem_of_getElem? (l := tables_1_2) (i := 21) rfl))), rfl⟩
theorem m262 : Cond.methodLink "StreamSeal" 96 yS_sumStandsAt ∈ gT := List.mem_filter.mpr ⟨List.mem_append_right _ (List.mem_append_right _ (List.mem_append_left _ (List.mem_of_getElem? (l := tables_1_2) (i := 22) rfl))), rfl⟩
theorem m264 : Cond.instanceMethod yS_sumStandsAt ∈ gT := List.mem_filter.mpr ⟨List.mem_append_right _ (List.mem_append_right _ (List.mem_append_left _ (List.mem_of_getElem? (l := tables_1_2) (i := 24) rfl))), rfl⟩
theorem m265 : Cond.code yS_sumStandsAt prog_1_method_17_code 4 (some FieldType.boolean) ∈ gT := List.mem_filter.mpr ⟨List.mem_append_right _ (List.mem_append_right _ (List.mem_append_left _ (List.mem_of_getElem? (l := tables_1_2) (i := 25) rfl))), rfl⟩
theorem m266 : Cond.methodLink "StreamSealLaw" 55 yS_digest ∈ gT := List.mem_filter.mpr ⟨List.mem_append_right _ (List.mem_append_right _ (List.mem_append_left _ (List.mem_of_getElem? (l := tables_1_2) (i := 26) rfl))), rfl⟩
theorem m267 : Cond.instanceMethod yS_digest ∈ gT := List.mem_filter.mpr ⟨List.mem_append_right _ (List.mem_append_right _ (List.mem_append_left _ (List.mem_of_getElem? (l := tables_1_2) (i := 27) rfl))), rfl⟩
theorem m268 : Cond.selects "StreamSeal" yS_digest yS_digest ∈ gT := List.mem_filter.mpr ⟨List.mem_append_right _ (List.mem_append_right _ (List.mem_append_left _ (List.mem_of_getElem? (l := tables_1_2) (i := 28) rfl))), rfl⟩
theorem m269 : Cond.code yS_digest prog_1_method_11_code 1 (some FieldType.int) ∈ gT := List.mem_filter.mpr ⟨List.mem_append_right _ (List.mem_append_right _ (List.mem_append_left _ (List.mem_of_getElem? (l := tables_1_2) (i := 29) rfl))), rfl⟩
theorem m270 : Cond.methodLink "StreamSeal" 99 yH_start ∈ gT := List.mem_filter.mpr ⟨List.mem_append_right _ (List.mem_append_right _ (List.mem_append_left _ (List.mem_of_getElem? (l := tables_1_2) (i := 30) rfl))), rfl⟩
theorem m271 : Cond.instanceMethod yH_start ∈ gT := List.mem_filter.mpr ⟨List.mem_append_right _ (List.mem_append_right _ (List.mem_append_left _ (List.mem_of_getElem? (l := tables_1_2) (i := 31) rfl))), rfl⟩
theorem m272 : Cond.selects "StreamSeal$Sha256" yH_start yH_start ∈ gT := List.mem_filter.mpr ⟨List.mem_append_right _ (List.mem_append_right _ (List.mem_append_left _ (List.mem_of_getElem? (l := tables_1_2) (i := 32) rfl))), rfl⟩
theorem m273 : Cond.code yH_start prog_4_method_2_code 1 none ∈ gT := List.mem_filter.mpr ⟨List.mem_append_right _ (List.mem_append_right _ (List.mem_append_left _ (List.mem_of_getElem? (l := tables_1_2) (i := 33) rfl))), rfl⟩
theorem m274 : Cond.fieldLink "StreamSeal$Sha256" 30 "StreamSeal$Sha256" "FIRST" "[I" ∈ gT := List.mem_filter.mpr ⟨List.mem_append_right _ (List.mem_append_right _ (List.mem_append_left _ (List.mem_of_getElem? (l := tables_1_2) (i := 34) rfl))), rfl⟩
theorem m276 : Cond.methodLink "StreamSeal$Sha256" 33 arraycopyName ∈ gT := List.mem_filter.mpr ⟨List.mem_append_right _ (List.mem_append_right _ (List.mem_append_left _ (List.mem_of_getElem? (l := tables_1_2) (i := 36) rfl))), rfl⟩
theorem m277 : Cond.methodLink "StreamSeal" 101 yH_add ∈ gT := List.mem_filter.mpr ⟨List.mem_append_right _ (List.mem_append_right _ (List.mem_append_left _ (List.mem_of_getElem? (l := tables_1_2) (i := 37) rfl))), rfl⟩
theorem m278 : Cond.instanceMethod yH_add ∈ gT := List.mem_filter.mpr ⟨List.mem_append_right _ (List.mem_append_right _ (List.mem_append_left _ (List.mem_of_getElem? (l := tables_1_2) (i := 38) rfl))), rfl⟩
theorem m279 : Cond.selects "StreamSeal$Sha256" yH_add yH_add ∈ gT := List.mem_filter.mpr ⟨List.mem_append_right _ (List.mem_append_right _ (List.mem_append_left _ (List.mem_of_getElem? (l := tables_1_2) (i := 39) rfl))), rfl⟩
theorem m280 : Cond.code yH_add prog_4_method_3_code 4 none ∈ gT := List.mem_filter.mpr ⟨List.mem_append_right _ (List.mem_append_right _ (List.mem_append_left _ (List.mem_of_getElem? (l := tables_1_2) (i := 40) rfl))), rfl⟩
theorem m281 : Cond.methodLink "StreamSeal$Sha256" 39 yH_addByte ∈ gT := List.mem_filter.mpr ⟨List.mem_append_right _ (List.mem_append_right _ (List.mem_append_left _ (List.mem_of_getElem? (l := tables_1_2) (i := 41) rfl))), rfl⟩
theorem m283 : Cond.instanceMethod yH_addByte ∈ gT := List.mem_filter.mpr ⟨List.mem_append_right _ (List.mem_append_right _ (List.mem_append_left _ (List.mem_of_getElem? (l := tables_1_2) (i := 43) rfl))), rfl⟩
theorem m284 : Cond.code yH_addByte prog_4_method_6_code 2 none ∈ gT := List.mem_filter.mpr ⟨List.mem_append_right _ (List.mem_append_right _ (List.mem_append_left _ (List.mem_of_getElem? (l := tables_1_2) (i := 44) rfl))), rfl⟩
theorem m285 : Cond.methodLink "StreamSeal$Sha256" 49 yH_spreadBlock ∈ gT := List.mem_filter.mpr ⟨List.mem_append_right _ (List.mem_append_right _ (List.mem_append_left _ (List.mem_of_getElem? (l := tables_1_2) (i := 45) rfl))), rfl⟩
theorem m287 : Cond.instanceMethod yH_spreadBlock ∈ gT := List.mem_filter.mpr ⟨List.mem_append_right _ (List.mem_append_right _ (List.mem_append_left _ (List.mem_of_getElem? (l := tables_1_2) (i := 47) rfl))), rfl⟩
theorem m288 : Cond.code yH_spreadBlock prog_4_method_7_code 6 none ∈ gT := List.mem_filter.mpr ⟨List.mem_append_right _ (List.mem_append_right _ (List.mem_append_left _ (List.mem_of_getElem? (l := tables_1_2) (i := 48) rfl))), rfl⟩
theorem m290 : Cond.static yS_readHighestFirst ∈ gT := List.mem_filter.mpr ⟨List.mem_append_right _ (List.mem_append_right _ (List.mem_append_left _ (List.mem_of_getElem? (l := tables_1_2) (i := 50) rfl))), rfl⟩
theorem m291 : Cond.code yS_readHighestFirst prog_1_method_20_code 2 (some FieldType.int) ∈ gT := List.mem_filter.mpr ⟨List.mem_append_right _ (List.mem_append_right _ (List.mem_append_left _ (List.mem_of_getElem? (l := tables_1_2) (i := 51) rfl))), rfl⟩
theorem m293 : Cond.static yS_turnRight ∈ gT := List.mem_filter.mpr ⟨List.mem_append_right _ (List.mem_append_right _ (List.mem_append_left _ (List.mem_of_getElem? (l := tables_1_2) (i := 53) rfl))), rfl⟩
theorem m294 : Cond.code yS_turnRight prog_1_method_23_code 2 (some FieldType.int) ∈ gT := List.mem_filter.mpr ⟨List.mem_append_right _ (List.mem_append_right _ (List.mem_append_left _ (List.mem_of_getElem? (l := tables_1_2) (i := 54) rfl))), rfl⟩
theorem m295 : Cond.methodLink "StreamSeal$Sha256" 52 yH_mixBlock ∈ gT := List.mem_filter.mpr ⟨List.mem_append_right _ (List.mem_append_right _ (List.mem_append_left _ (List.mem_of_getElem? (l := tables_1_2) (i := 55) rfl))), rfl⟩
theorem m297 : Cond.instanceMethod yH_mixBlock ∈ gT := List.mem_filter.mpr ⟨List.mem_append_right _ (List.mem_append_right _ (List.mem_append_left _ (List.mem_of_getElem? (l := tables_1_2) (i := 57) rfl))), rfl⟩
theorem m298 : Cond.code yH_mixBlock prog_4_method_8_code 2 none ∈ gT := List.mem_filter.mpr ⟨List.mem_append_right _ (List.mem_append_right _ (List.mem_append_left _ (List.mem_of_getElem? (l := tables_1_2) (i := 58) rfl))), rfl⟩
theorem m299 : Cond.fieldLink "StreamSeal$Sha256" 63 "StreamSeal$Sha256" "ADDED" "[I" ∈ gT := List.mem_filter.mpr ⟨List.mem_append_right _ (List.mem_append_right _ (List.mem_append_left _ (List.mem_of_getElem? (l := tables_1_2) (i := 59) rfl))), rfl⟩
theorem m301 : Cond.methodLink "StreamSeal$Sha256" 66 yH_mixRound ∈ gT := List.mem_filter.mpr ⟨List.mem_append_right _ (List.mem_append_right _ (List.mem_append_left _ (List.mem_of_getElem? (l := tables_1_2) (i := 61) rfl))), rfl⟩
theorem m303 : Cond.instanceMethod yH_mixRound ∈ gT := List.mem_filter.mpr ⟨List.mem_append_right _ (List.mem_append_right _ (List.mem_append_left _ (List.mem_of_getElem? (l := tables_1_2) (i := 63) rfl))), rfl⟩
theorem m304 : Cond.code yH_mixRound prog_4_method_9_code 9 none ∈ gT := List.mem_filter.mpr ⟨List.mem_append_right _ (List.mem_append_right _ (List.mem_append_left _ (List.mem_of_getElem? (l := tables_1_2) (i := 64) rfl))), rfl⟩
theorem m305 : Cond.methodLink "StreamSeal" 103 yH_finish ∈ gT := List.mem_filter.mpr ⟨List.mem_append_right _ (List.mem_append_right _ (List.mem_append_left _ (List.mem_of_getElem? (l := tables_1_2) (i := 65) rfl))), rfl⟩
theorem m306 : Cond.instanceMethod yH_finish ∈ gT := List.mem_filter.mpr ⟨List.mem_append_right _ (List.mem_append_right _ (List.mem_append_left _ (List.mem_of_getElem? (l := tables_1_2) (i := 66) rfl))), rfl⟩
theorem m307 : Cond.selects "StreamSeal$Sha256" yH_finish yH_finish ∈ gT := List.mem_filter.mpr ⟨List.mem_append_right _ (List.mem_append_right _ (List.mem_append_left _ (List.mem_of_getElem? (l := tables_1_2) (i := 67) rfl))), rfl⟩
theorem m308 : Cond.code yH_finish prog_4_method_5_code 5 none ∈ gT := List.mem_filter.mpr ⟨List.mem_append_right _ (List.mem_append_right _ (List.mem_append_left _ (List.mem_of_getElem? (l := tables_1_2) (i := 68) rfl))), rfl⟩
theorem m310 : Cond.methodLink "StreamSealLaw" 59 yS_mac ∈ gT := List.mem_filter.mpr ⟨List.mem_append_right _ (List.mem_append_right _ (List.mem_append_left _ (List.mem_of_getElem? (l := tables_1_2) (i := 70) rfl))), rfl⟩
theorem m311 : Cond.instanceMethod yS_mac ∈ gT := List.mem_filter.mpr ⟨List.mem_append_right _ (List.mem_append_right _ (List.mem_append_left _ (List.mem_of_getElem? (l := tables_1_2) (i := 71) rfl))), rfl⟩
theorem m312 : Cond.selects "StreamSeal" yS_mac yS_mac ∈ gT := List.mem_filter.mpr ⟨List.mem_append_right _ (List.mem_append_right _ (List.mem_append_left _ (List.mem_of_getElem? (l := tables_1_2) (i := 72) rfl))), rfl⟩
theorem m313 : Cond.code yS_mac prog_1_method_12_code 1 (some FieldType.int) ∈ gT := List.mem_filter.mpr ⟨List.mem_append_right _ (List.mem_append_right _ (List.mem_append_left _ (List.mem_of_getElem? (l := tables_1_2) (i := 73) rfl))), rfl⟩
theorem m314 : Cond.methodLink "StreamSeal" 105 yH_addMasked ∈ gT := List.mem_filter.mpr ⟨List.mem_append_right _ (List.mem_append_right _ (List.mem_append_left _ (List.mem_of_getElem? (l := tables_1_2) (i := 74) rfl))), rfl⟩
theorem m315 : Cond.instanceMethod yH_addMasked ∈ gT := List.mem_filter.mpr ⟨List.mem_append_right _ (List.mem_append_right _ (List.mem_append_left _ (List.mem_of_getElem? (l := tables_1_2) (i := 75) rfl))), rfl⟩
theorem m316 : Cond.selects "StreamSeal$Sha256" yH_addMasked yH_addMasked ∈ gT := List.mem_filter.mpr ⟨List.mem_append_right _ (List.mem_append_right _ (List.mem_append_left _ (List.mem_of_getElem? (l := tables_1_2) (i := 76) rfl))), rfl⟩
theorem m317 : Cond.code yH_addMasked prog_4_method_4_code 4 none ∈ gT := List.mem_filter.mpr ⟨List.mem_append_right _ (List.mem_append_right _ (List.mem_append_left _ (List.mem_of_getElem? (l := tables_1_2) (i := 77) rfl))), rfl⟩
theorem m318 : Cond.methodLink "StreamSealLaw" 63 yS_octet ∈ gT := List.mem_filter.mpr ⟨List.mem_append_right _ (List.mem_append_right _ (List.mem_append_left _ (List.mem_of_getElem? (l := tables_1_2) (i := 78) rfl))), rfl⟩
theorem m319 : Cond.instanceMethod yS_octet ∈ gT := List.mem_filter.mpr ⟨List.mem_append_right _ (List.mem_append_right _ (List.mem_append_left _ (List.mem_of_getElem? (l := tables_1_2) (i := 79) rfl))), rfl⟩
theorem m320 : Cond.selects "StreamSeal" yS_octet yS_octet ∈ gT := List.mem_filter.mpr ⟨List.mem_append_right _ (List.mem_append_right _ (List.mem_append_left _ (List.mem_of_getElem? (l := tables_1_2) (i := 80) rfl))), rfl⟩
theorem m321 : Cond.code yS_octet prog_1_method_13_code 2 (some FieldType.int) ∈ gT := List.mem_filter.mpr ⟨List.mem_append_right _ (List.mem_append_right _ (List.mem_append_left _ (List.mem_of_getElem? (l := tables_1_2) (i := 81) rfl))), rfl⟩
theorem m322 : Cond.classLink "StreamSealLaw" 10 "StreamSealModel" ∈ gT := List.mem_filter.mpr ⟨List.mem_append_right _ (List.mem_append_right _ (List.mem_append_left _ (List.mem_of_getElem? (l := tables_1_2) (i := 82) rfl))), rfl⟩
theorem m323 : Cond.instantiable "StreamSealModel" 21 ∈ gT := List.mem_filter.mpr ⟨List.mem_append_right _ (List.mem_append_right _ (List.mem_append_left _ (List.mem_of_getElem? (l := tables_1_2) (i := 83) rfl))), rfl⟩
theorem m324 : Cond.methodLink "StreamSealLaw" 12 yM_init ∈ gT := List.mem_filter.mpr ⟨List.mem_append_right _ (List.mem_append_right _ (List.mem_append_left _ (List.mem_of_getElem? (l := tables_1_2) (i := 84) rfl))), rfl⟩
theorem m325 : Cond.instanceMethod yM_init ∈ gT := List.mem_filter.mpr ⟨List.mem_append_right _ (List.mem_append_right _ (List.mem_append_left _ (List.mem_of_getElem? (l := tables_1_2) (i := 85) rfl))), rfl⟩
theorem m326 : Cond.code yM_init prog_6_method_1_code 1 none ∈ gT := List.mem_filter.mpr ⟨List.mem_append_right _ (List.mem_append_right _ (List.mem_append_left _ (List.mem_of_getElem? (l := tables_1_2) (i := 86) rfl))), rfl⟩
theorem m327 : Cond.methodLink "StreamSealModel" 1 Lib.objectInit ∈ gT := List.mem_filter.mpr ⟨List.mem_append_right _ (List.mem_append_right _ (List.mem_append_left _ (List.mem_of_getElem? (l := tables_1_2) (i := 87) rfl))), rfl⟩
theorem m328 : Cond.fieldLink "StreamSealModel" 9 "StreamSealModel" "tape" "[B" ∈ gT := List.mem_filter.mpr ⟨List.mem_append_right _ (List.mem_append_right _ (List.mem_append_left _ (List.mem_of_getElem? (l := tables_1_2) (i := 88) rfl))), rfl⟩
theorem m329 : Cond.fieldLink "StreamSealModel" 121 "StreamSealModel" "tapeLength" "I" ∈ gT := List.mem_filter.mpr ⟨List.mem_append_right _ (List.mem_append_right _ (List.mem_append_left _ (List.mem_of_getElem? (l := tables_1_2) (i := 89) rfl))), rfl⟩
theorem m330 : Cond.fieldLink "StreamSealModel" 13 "StreamSealModel" "out" "[B" ∈ gT := List.mem_filter.mpr ⟨List.mem_append_right _ (List.mem_append_right _ (List.mem_append_left _ (List.mem_of_getElem? (l := tables_1_2) (i := 90) rfl))), rfl⟩
theorem m331 : Cond.fieldLink "StreamSealModel" 127 "StreamSealModel" "outCount" "I" ∈ gT := List.mem_filter.mpr ⟨List.mem_append_right _ (List.mem_append_right _ (List.mem_append_left _ (List.mem_of_getElem? (l := tables_1_2) (i := 91) rfl))), rfl⟩
theorem m332 : Cond.fieldLink "StreamSealModel" 16 "StreamSealModel" "key" "[B" ∈ gT := List.mem_filter.mpr ⟨List.mem_append_right _ (List.mem_append_right _ (List.mem_append_left _ (List.mem_of_getElem? (l := tables_1_2) (i := 92) rfl))), rfl⟩
theorem m333 : Cond.fieldLink "StreamSealModel" 19 "StreamSealModel" "nonce" "[B" ∈ gT := List.mem_filter.mpr ⟨List.mem_append_right _ (List.mem_append_right _ (List.mem_append_left _ (List.mem_of_getElem? (l := tables_1_2) (i := 93) rfl))), rfl⟩
theorem m334 : Cond.fieldLink "StreamSealModel" 22 "StreamSealModel" "row" "[B" ∈ gT := List.mem_filter.mpr ⟨List.mem_append_right _ (List.mem_append_right _ (List.mem_append_left _ (List.mem_of_getElem? (l := tables_1_2) (i := 94) rfl))), rfl⟩
theorem m335 : Cond.fieldLink "StreamSealModel" 63 "StreamSealModel" "rowCount" "I" ∈ gT := List.mem_filter.mpr ⟨List.mem_append_right _ (List.mem_append_right _ (List.mem_append_left _ (List.mem_of_getElem? (l := tables_1_2) (i := 95) rfl))), rfl⟩
theorem m336 : Cond.fieldLink "StreamSealModel" 25 "StreamSealModel" "h" "[J" ∈ gT := List.mem_filter.mpr ⟨List.mem_append_right _ (List.mem_append_right _ (List.mem_append_left _ (List.mem_of_getElem? (l := tables_1_2) (i := 96) rfl))), rfl⟩
theorem m337 : Cond.fieldLink "StreamSealModel" 29 "StreamSealModel" "w" "[J" ∈ gT := List.mem_filter.mpr ⟨List.mem_append_right _ (List.mem_append_right _ (List.mem_append_left _ (List.mem_of_getElem? (l := tables_1_2) (i := 97) rfl))), rfl⟩
theorem m338 : Cond.fieldLink "StreamSealModel" 32 "StreamSealModel" "one" "[B" ∈ gT := List.mem_filter.mpr ⟨List.mem_append_right _ (List.mem_append_right _ (List.mem_append_left _ (List.mem_of_getElem? (l := tables_1_2) (i := 98) rfl))), rfl⟩
theorem m339 : Cond.fieldLink "StreamSealModel" 35 "StreamSealModel" "v" "[I" ∈ gT := List.mem_filter.mpr ⟨List.mem_append_right _ (List.mem_append_right _ (List.mem_append_left _ (List.mem_of_getElem? (l := tables_1_2) (i := 99) rfl))), rfl⟩
theorem m340 : Cond.fieldLink "StreamSealModel" 39 "StreamSealModel" "begin" "[I" ∈ gT := List.mem_filter.mpr ⟨List.mem_append_right _ (List.mem_append_right _ (List.mem_append_left _ (List.mem_of_getElem? (l := tables_1_2) (i := 100) rfl))), rfl⟩
theorem m341 : Cond.fieldLink "StreamSealModel" 42 "StreamSealModel" "stream" "[B" ∈ gT := List.mem_filter.mpr ⟨List.mem_append_right _ (List.mem_append_right _ (List.mem_append_left _ (List.mem_of_getElem? (l := tables_1_2) (i := 101) rfl))), rfl⟩
theorem m342 : Cond.fieldLink "StreamSealModel" 45 "StreamSealModel" "sum" "[I" ∈ gT := List.mem_filter.mpr ⟨List.mem_append_right _ (List.mem_append_right _ (List.mem_append_left _ (List.mem_of_getElem? (l := tables_1_2) (i := 102) rfl))), rfl⟩
theorem m343 : Cond.fieldLink "StreamSealModel" 48 "StreamSealModel" "product" "[I" ∈ gT := List.mem_filter.mpr ⟨List.mem_append_right _ (List.mem_append_right _ (List.mem_append_left _ (List.mem_of_getElem? (l := tables_1_2) (i := 103) rfl))), rfl⟩
theorem m344 : Cond.fieldLink "StreamSealModel" 51 "StreamSealModel" "\x72" "[I" ∈ gT := List.mem_filter.mpr ⟨List.mem_append_right _ (List.mem_append_right _ (List.mem_append_left _ (List.mem_of_getElem? (l := tables_1_2) (i := 104) rfl))), rfl⟩
theorem m345 : Cond.fieldLink "StreamSealModel" 54 "StreamSealModel" "text" "[B" ∈ gT := List.mem_filter.mpr ⟨List.mem_append_right _ (List.mem_append_right _ (List.mem_append_left _ (List.mem_of_getElem? (l := tables_1_2) (i := 105) rfl))), rfl⟩
theorem m346 : Cond.fieldLink "StreamSealModel" 57 "StreamSealModel" "tag" "[B" ∈ gT := List.mem_filter.mpr ⟨List.mem_append_right _ (List.mem_append_right _ (List.mem_append_left _ (List.mem_of_getElem? (l := tables_1_2) (i := 106) rfl))), rfl⟩
theorem m347 : Cond.fieldLink "StreamSealModel" 60 "StreamSealModel" "above" "[I" ∈ gT := List.mem_filter.mpr ⟨List.mem_append_right _ (List.mem_append_right _ (List.mem_append_left _ (List.mem_of_getElem? (l := tables_1_2) (i := 107) rfl))), rfl⟩
theorem m348 : Cond.fieldLink "StreamSealModel" 109 "StreamSealModel" "texts" "I" ∈ gT := List.mem_filter.mpr ⟨List.mem_append_right _ (List.mem_append_right _ (List.mem_append_left _ (List.mem_of_getElem? (l := tables_1_2) (i := 108) rfl))), rfl⟩
theorem m349 : Cond.laysFinal "StreamSealModel" "StreamSealModel" "tape" "[B" ∈ gT := List.mem_filter.mpr ⟨List.mem_append_right _ (List.mem_append_right _ (List.mem_append_left _ (List.mem_of_getElem? (l := tables_1_2) (i := 109) rfl))), rfl⟩
theorem m351 : Cond.lays "StreamSealModel" "StreamSealModel" "tapeLength" "I" ∈ gT := List.mem_filter.mpr ⟨List.mem_append_right _ (List.mem_append_right _ (List.mem_append_left _ (List.mem_of_getElem? (l := tables_1_2) (i := 111) rfl))), rfl⟩
theorem m353 : Cond.laysFinal "StreamSealModel" "StreamSealModel" "out" "[B" ∈ gT := List.mem_filter.mpr ⟨List.mem_append_right _ (List.mem_append_right _ (List.mem_append_left _ (List.mem_of_getElem? (l := tables_1_2) (i := 113) rfl))), rfl⟩
theorem m355 : Cond.lays "StreamSealModel" "StreamSealModel" "outCount" "I" ∈ gT := List.mem_filter.mpr ⟨List.mem_append_right _ (List.mem_append_right _ (List.mem_append_left _ (List.mem_of_getElem? (l := tables_1_2) (i := 115) rfl))), rfl⟩
theorem m357 : Cond.laysFinal "StreamSealModel" "StreamSealModel" "key" "[B" ∈ gT := List.mem_filter.mpr ⟨List.mem_append_right _ (List.mem_append_right _ (List.mem_append_left _ (List.mem_of_getElem? (l := tables_1_2) (i := 117) rfl))), rfl⟩
theorem m359 : Cond.laysFinal "StreamSealModel" "StreamSealModel" "nonce" "[B" ∈ gT := List.mem_filter.mpr ⟨List.mem_append_right _ (List.mem_append_right _ (List.mem_append_left _ (List.mem_of_getElem? (l := tables_1_2) (i := 119) rfl))), rfl⟩
theorem m361 : Cond.laysFinal "StreamSealModel" "StreamSealModel" "row" "[B" ∈ gT := List.mem_filter.mpr ⟨List.mem_append_right _ (List.mem_append_right _ (List.mem_append_left _ (List.mem_of_getElem? (l := tables_1_2) (i := 121) rfl))), rfl⟩
theorem m363 : Cond.lays "StreamSealModel" "StreamSealModel" "rowCount" "I" ∈ gT := List.mem_filter.mpr ⟨List.mem_append_right _ (List.mem_append_right _ (List.mem_append_left _ (List.mem_of_getElem? (l := tables_1_2) (i := 123) rfl))), rfl⟩
theorem m365 : Cond.laysFinal "StreamSealModel" "StreamSealModel" "h" "[J" ∈ gT := List.mem_filter.mpr ⟨List.mem_append_right _ (List.mem_append_right _ (List.mem_append_left _ (List.mem_of_getElem? (l := tables_1_2) (i := 125) rfl))), rfl⟩
theorem m367 : Cond.laysFinal "StreamSealModel" "StreamSealModel" "w" "[J" ∈ gT := List.mem_filter.mpr ⟨List.mem_append_right _ (List.mem_append_right _ (List.mem_append_left _ (List.mem_of_getElem? (l := tables_1_2) (i := 127) rfl))), rfl⟩
theorem m369 : Cond.laysFinal "StreamSealModel" "StreamSealModel" "one" "[B" ∈ gT := List.mem_filter.mpr ⟨List.mem_append_right _ (List.mem_append_right _ (List.mem_append_left _ (List.mem_of_getElem? (l := tables_1_2) (i := 129) rfl))), rfl⟩
theorem m371 : Cond.laysFinal "StreamSealModel" "StreamSealModel" "v" "[I" ∈ gT := List.mem_filter.mpr ⟨List.mem_append_right _ (List.mem_append_right _ (List.mem_append_left _ (List.mem_of_getElem? (l := tables_1_2) (i := 131) rfl))), rfl⟩
theorem m373 : Cond.laysFinal "StreamSealModel" "StreamSealModel" "begin" "[I" ∈ gT := List.mem_filter.mpr ⟨List.mem_append_right _ (List.mem_append_right _ (List.mem_append_left _ (List.mem_of_getElem? (l := tables_1_2) (i := 133) rfl))), rfl⟩
theorem m375 : Cond.laysFinal "StreamSealModel" "StreamSealModel" "stream" "[B" ∈ gT := List.mem_filter.mpr ⟨List.mem_append_right _ (List.mem_append_right _ (List.mem_append_left _ (List.mem_of_getElem? (l := tables_1_2) (i := 135) rfl))), rfl⟩
theorem m377 : Cond.laysFinal "StreamSealModel" "StreamSealModel" "sum" "[I" ∈ gT := List.mem_filter.mpr ⟨List.mem_append_right _ (List.mem_append_right _ (List.mem_append_left _ (List.mem_of_getElem? (l := tables_1_2) (i := 137) rfl))), rfl⟩
theorem m379 : Cond.laysFinal "StreamSealModel" "StreamSealModel" "product" "[I" ∈ gT := List.mem_filter.mpr ⟨List.mem_append_right _ (List.mem_append_right _ (List.mem_append_left _ (List.mem_of_getElem? (l := tables_1_2) (i := 139) rfl))), rfl⟩
theorem m381 : Cond.laysFinal "StreamSealModel" "StreamSealModel" "\x72" "[I" ∈ gT := List.mem_filter.mpr ⟨List.mem_append_right _ (List.mem_append_right _ (List.mem_append_left _ (List.mem_of_getElem? (l := tables_1_2) (i := 141) rfl))), rfl⟩
theorem m383 : Cond.laysFinal "StreamSealModel" "StreamSealModel" "text" "[B" ∈ gT := List.mem_filter.mpr ⟨List.mem_append_right _ (List.mem_append_right _ (List.mem_append_left _ (List.mem_of_getElem? (l := tables_1_2) (i := 143) rfl))), rfl⟩
theorem m385 : Cond.laysFinal "StreamSealModel" "StreamSealModel" "tag" "[B" ∈ gT := List.mem_filter.mpr ⟨List.mem_append_right _ (List.mem_append_right _ (List.mem_append_left _ (List.mem_of_getElem? (l := tables_1_2) (i := 145) rfl))), rfl⟩
theorem m387 : Cond.laysFinal "StreamSealModel" "StreamSealModel" "above" "[I" ∈ gT := List.mem_filter.mpr ⟨List.mem_append_right _ (List.mem_append_right _ (List.mem_append_left _ (List.mem_of_getElem? (l := tables_1_2) (i := 147) rfl))), rfl⟩
theorem m389 : Cond.lays "StreamSealModel" "StreamSealModel" "texts" "I" ∈ gT := List.mem_filter.mpr ⟨List.mem_append_right _ (List.mem_append_right _ (List.mem_append_left _ (List.mem_of_getElem? (l := tables_1_2) (i := 149) rfl))), rfl⟩
theorem m392 : Cond.methodLink "StreamSealLaw" 17 yM_feed ∈ gT := List.mem_filter.mpr ⟨List.mem_append_right _ (List.mem_append_right _ (List.mem_append_left _ (List.mem_of_getElem? (l := tables_1_2) (i := 152) rfl))), rfl⟩
theorem m393 : Cond.instanceMethod yM_feed ∈ gT := List.mem_filter.mpr ⟨List.mem_append_right _ (List.mem_append_right _ (List.mem_append_left _ (List.mem_of_getElem? (l := tables_1_2) (i := 153) rfl))), rfl⟩
theorem m394 : Cond.selects "StreamSealModel" yM_feed yM_feed ∈ gT := List.mem_filter.mpr ⟨List.mem_append_right _ (List.mem_append_right _ (List.mem_append_left _ (List.mem_of_getElem? (l := tables_1_2) (i := 154) rfl))), rfl⟩
theorem m395 : Cond.code yM_feed prog_6_method_18_code 6 (some FieldType.int) ∈ gT := List.mem_filter.mpr ⟨List.mem_append_right _ (List.mem_append_right _ (List.mem_append_left _ (List.mem_of_getElem? (l := tables_1_2) (i := 155) rfl))), rfl⟩
theorem m396 : Cond.methodLink "StreamSealModel" 124 yM_put ∈ gT := List.mem_filter.mpr ⟨List.mem_append_right _ (List.mem_append_right _ (List.mem_append_left _ (List.mem_of_getElem? (l := tables_1_2) (i := 156) rfl))), rfl⟩
theorem m398 : Cond.instanceMethod yM_put ∈ gT := List.mem_filter.mpr ⟨List.mem_append_right _ (List.mem_append_right _ (List.mem_append_left _ (List.mem_of_getElem? (l := tables_1_2) (i := 158) rfl))), rfl⟩
theorem m399 : Cond.code yM_put prog_6_method_17_code 3 none ∈ gT := List.mem_filter.mpr ⟨List.mem_append_right _ (List.mem_append_right _ (List.mem_append_left _ (List.mem_of_getElem? (l := tables_1_2) (i := 159) rfl))), rfl⟩
theorem m400 : Cond.methodLink "StreamSealLaw" 22 yM_end ∈ gT := List.mem_filter.mpr ⟨List.mem_append_right _ (List.mem_append_right _ (List.mem_append_left _ (List.mem_of_getElem? (l := tables_1_2) (i := 160) rfl))), rfl⟩
theorem m401 : Cond.instanceMethod yM_end ∈ gT := List.mem_filter.mpr ⟨List.mem_append_right _ (List.mem_append_right _ (List.mem_append_left _ (List.mem_of_getElem? (l := tables_1_2) (i := 161) rfl))), rfl⟩
theorem m402 : Cond.selects "StreamSealModel" yM_end yM_end ∈ gT := List.mem_filter.mpr ⟨List.mem_append_right _ (List.mem_append_right _ (List.mem_append_left _ (List.mem_of_getElem? (l := tables_1_2) (i := 162) rfl))), rfl⟩
theorem m403 : Cond.code yM_end prog_6_method_19_code 2 (some FieldType.int) ∈ gT := List.mem_filter.mpr ⟨List.mem_append_right _ (List.mem_append_right _ (List.mem_append_left _ (List.mem_of_getElem? (l := tables_1_2) (i := 163) rfl))), rfl⟩
theorem m404 : Cond.methodLink "StreamSealLaw" 26 yM_take ∈ gT := List.mem_filter.mpr ⟨List.mem_append_right _ (List.mem_append_right _ (List.mem_append_left _ (List.mem_of_getElem? (l := tables_1_2) (i := 164) rfl))), rfl⟩
theorem m405 : Cond.instanceMethod yM_take ∈ gT := List.mem_filter.mpr ⟨List.mem_append_right _ (List.mem_append_right _ (List.mem_append_left _ (List.mem_of_getElem? (l := tables_1_2) (i := 165) rfl))), rfl⟩
theorem m406 : Cond.selects "StreamSealModel" yM_take yM_take ∈ gT := List.mem_filter.mpr ⟨List.mem_append_right _ (List.mem_append_right _ (List.mem_append_left _ (List.mem_of_getElem? (l := tables_1_2) (i := 166) rfl))), rfl⟩
theorem m407 : Cond.code yM_take prog_6_method_20_code 3 (some FieldType.int) ∈ gT := List.mem_filter.mpr ⟨List.mem_append_right _ (List.mem_append_right _ (List.mem_append_left _ (List.mem_of_getElem? (l := tables_1_2) (i := 167) rfl))), rfl⟩
theorem m408 : Cond.methodLink "StreamSealLaw" 31 yM_key ∈ gT := List.mem_filter.mpr ⟨List.mem_append_right _ (List.mem_append_right _ (List.mem_append_left _ (List.mem_of_getElem? (l := tables_1_2) (i := 168) rfl))), rfl⟩
theorem m409 : Cond.instanceMethod yM_key ∈ gT := List.mem_filter.mpr ⟨List.mem_append_right _ (List.mem_append_right _ (List.mem_append_left _ (List.mem_of_getElem? (l := tables_1_2) (i := 169) rfl))), rfl⟩
theorem m410 : Cond.selects "StreamSealModel" yM_key yM_key ∈ gT := List.mem_filter.mpr ⟨List.mem_append_right _ (List.mem_append_right _ (List.mem_append_left _ (List.mem_of_getElem? (l := tables_1_2) (i := 170) rfl))), rfl⟩
theorem m411 : Cond.code yM_key prog_6_method_21_code 3 (some FieldType.int) ∈ gT := List.mem_filter.mpr ⟨List.mem_append_right _ (List.mem_append_right _ (List.mem_append_left _ (List.mem_of_getElem? (l := tables_1_2) (i := 171) rfl))), rfl⟩
theorem m412 : Cond.methodLink "StreamSealLaw" 38 yM_nonce ∈ gT := List.mem_filter.mpr ⟨List.mem_append_right _ (List.mem_append_right _ (List.mem_append_left _ (List.mem_of_getElem? (l := tables_1_2) (i := 172) rfl))), rfl⟩
theorem m413 : Cond.instanceMethod yM_nonce ∈ gT := List.mem_filter.mpr ⟨List.mem_append_right _ (List.mem_append_right _ (List.mem_append_left _ (List.mem_of_getElem? (l := tables_1_2) (i := 173) rfl))), rfl⟩
theorem m414 : Cond.selects "StreamSealModel" yM_nonce yM_nonce ∈ gT := List.mem_filter.mpr ⟨List.mem_append_right _ (List.mem_append_right _ (List.mem_append_left _ (List.mem_of_getElem? (l := tables_1_2) (i := 174) rfl))), rfl⟩
theorem m415 : Cond.code yM_nonce prog_6_method_22_code 5 none ∈ gT := List.mem_filter.mpr ⟨List.mem_append_right _ (List.mem_append_right _ (List.mem_append_left _ (List.mem_of_getElem? (l := tables_1_2) (i := 175) rfl))), rfl⟩
theorem m416 : Cond.methodLink "StreamSealLaw" 42 yM_stream ∈ gT := List.mem_filter.mpr ⟨List.mem_append_right _ (List.mem_append_right _ (List.mem_append_left _ (List.mem_of_getElem? (l := tables_1_2) (i := 176) rfl))), rfl⟩
theorem m417 : Cond.instanceMethod yM_stream ∈ gT := List.mem_filter.mpr ⟨List.mem_append_right _ (List.mem_append_right _ (List.mem_append_left _ (List.mem_of_getElem? (l := tables_1_2) (i := 177) rfl))), rfl⟩
theorem m418 : Cond.selects "StreamSealModel" yM_stream yM_stream ∈ gT := List.mem_filter.mpr ⟨List.mem_append_right _ (List.mem_append_right _ (List.mem_append_left _ (List.mem_of_getElem? (l := tables_1_2) (i := 178) rfl))), rfl⟩
theorem m419 : Cond.code yM_stream prog_6_method_23_code 3 (some FieldType.int) ∈ gT := List.mem_filter.mpr ⟨List.mem_append_right _ (List.mem_append_right _ (List.mem_append_left _ (List.mem_of_getElem? (l := tables_1_2) (i := 179) rfl))), rfl⟩
theorem m420 : Cond.methodLink "StreamSealModel" 115 yM_block ∈ gT := List.mem_filter.mpr ⟨List.mem_append_right _ (List.mem_append_right _ (List.mem_append_left _ (List.mem_of_getElem? (l := tables_1_2) (i := 180) rfl))), rfl⟩
theorem m422 : Cond.instanceMethod yM_block ∈ gT := List.mem_filter.mpr ⟨List.mem_append_right _ (List.mem_append_right _ (List.mem_append_left _ (List.mem_of_getElem? (l := tables_1_2) (i := 182) rfl))), rfl⟩
theorem m423 : Cond.code yM_block prog_6_method_10_code 5 none ∈ gT := List.mem_filter.mpr ⟨List.mem_append_right _ (List.mem_append_right _ (List.mem_append_left _ (List.mem_of_getElem? (l := tables_1_2) (i := 183) rfl))), rfl⟩
theorem m424 : Cond.constant "StreamSealModel" 91 1634760805 ∈ gT := List.mem_filter.mpr ⟨List.mem_append_right _ (List.mem_append_right _ (List.mem_append_left _ (List.mem_of_getElem? (l := tables_1_2) (i := 184) rfl))), rfl⟩
theorem m425 : Cond.constant "StreamSealModel" 92 857760878 ∈ gT := List.mem_filter.mpr ⟨List.mem_append_right _ (List.mem_append_right _ (List.mem_append_left _ (List.mem_of_getElem? (l := tables_1_2) (i := 185) rfl))), rfl⟩
theorem m426 : Cond.constant "StreamSealModel" 93 2036477234 ∈ gT := List.mem_filter.mpr ⟨List.mem_append_right _ (List.mem_append_right _ (List.mem_append_left _ (List.mem_of_getElem? (l := tables_1_2) (i := 186) rfl))), rfl⟩
theorem m427 : Cond.constant "StreamSealModel" 94 1797285236 ∈ gT := List.mem_filter.mpr ⟨List.mem_append_right _ (List.mem_append_right _ (List.mem_append_left _ (List.mem_of_getElem? (l := tables_1_2) (i := 187) rfl))), rfl⟩
theorem m428 : Cond.methodLink "StreamSealModel" 95 yM_low ∈ gT := List.mem_filter.mpr ⟨List.mem_append_right _ (List.mem_append_right _ (List.mem_append_left _ (List.mem_of_getElem? (l := tables_1_2) (i := 188) rfl))), rfl⟩
theorem m429 : Cond.static yM_low ∈ gT := List.mem_filter.mpr ⟨List.mem_append_right _ (List.mem_append_right _ (List.mem_append_left _ (List.mem_of_getElem? (l := tables_1_2) (i := 189) rfl))), rfl⟩
theorem m430 : Cond.code yM_low prog_6_method_7_code 2 (some FieldType.int) ∈ gT := List.mem_filter.mpr ⟨List.mem_append_right _ (List.mem_append_right _ (List.mem_append_left _ (List.mem_of_getElem? (l := tables_1_2) (i := 190) rfl))), rfl⟩
theorem m431 : Cond.methodLink "StreamSealModel" 99 yM_mix ∈ gT := List.mem_filter.mpr ⟨List.mem_append_right _ (List.mem_append_right _ (List.mem_append_left _ (List.mem_of_getElem? (l := tables_1_2) (i := 191) rfl))), rfl⟩
theorem m433 : Cond.instanceMethod yM_mix ∈ gT := List.mem_filter.mpr ⟨List.mem_append_right _ (List.mem_append_right _ (List.mem_append_left _ (List.mem_of_getElem? (l := tables_1_2) (i := 193) rfl))), rfl⟩
theorem m434 : Cond.code yM_mix prog_6_method_8_code 5 none ∈ gT := List.mem_filter.mpr ⟨List.mem_append_right _ (List.mem_append_right _ (List.mem_append_left _ (List.mem_of_getElem? (l := tables_1_2) (i := 194) rfl))), rfl⟩
theorem m435 : Cond.methodLink "StreamSealModel" 87 yM_turned ∈ gT := List.mem_filter.mpr ⟨List.mem_append_right _ (List.mem_append_right _ (List.mem_append_left _ (List.mem_of_getElem? (l := tables_1_2) (i := 195) rfl))), rfl⟩
theorem m436 : Cond.static yM_turned ∈ gT := List.mem_filter.mpr ⟨List.mem_append_right _ (List.mem_append_right _ (List.mem_append_left _ (List.mem_of_getElem? (l := tables_1_2) (i := 196) rfl))), rfl⟩
theorem m437 : Cond.code yM_turned prog_6_method_9_code 2 (some FieldType.int) ∈ gT := List.mem_filter.mpr ⟨List.mem_append_right _ (List.mem_append_right _ (List.mem_append_left _ (List.mem_of_getElem? (l := tables_1_2) (i := 197) rfl))), rfl⟩
theorem m438 : Cond.methodLink "StreamSealLaw" 46 yM_sum ∈ gT := List.mem_filter.mpr ⟨List.mem_append_right _ (List.mem_append_right _ (List.mem_append_left _ (List.mem_of_getElem? (l := tables_1_2) (i := 198) rfl))), rfl⟩
theorem m439 : Cond.instanceMethod yM_sum ∈ gT := List.mem_filter.mpr ⟨List.mem_append_right _ (List.mem_append_right _ (List.mem_append_left _ (List.mem_of_getElem? (l := tables_1_2) (i := 199) rfl))), rfl⟩
theorem m440 : Cond.selects "StreamSealModel" yM_sum yM_sum ∈ gT := List.mem_filter.mpr ⟨List.mem_append_right _ (List.mem_append_right _ (List.mem_append_left _ (List.mem_of_getElem? (l := tables_1_2) (i := 200) rfl))), rfl⟩
theorem m441 : Cond.code yM_sum prog_6_method_25_code 2 (some FieldType.int) ∈ gT := List.mem_filter.mpr ⟨List.mem_append_right _ (List.mem_append_right _ (List.mem_append_left _ (List.mem_of_getElem? (l := tables_1_2) (i := 201) rfl))), rfl⟩
theorem m442 : Cond.methodLink "StreamSealModel" 117 yM_sumOf ∈ gT := List.mem_filter.mpr ⟨List.mem_append_right _ (List.mem_append_right _ (List.mem_append_left _ (List.mem_of_getElem? (l := tables_1_2) (i := 202) rfl))), rfl⟩
theorem m444 : Cond.instanceMethod yM_sumOf ∈ gT := List.mem_filter.mpr ⟨List.mem_append_right _ (List.mem_append_right _ (List.mem_append_left _ (List.mem_of_getElem? (l := tables_1_2) (i := 204) rfl))), rfl⟩
theorem m445 : Cond.code yM_sumOf prog_6_method_13_code 7 none ∈ gT := List.mem_filter.mpr ⟨List.mem_append_right _ (List.mem_append_right _ (List.mem_append_left _ (List.mem_of_getElem? (l := tables_1_2) (i := 205) rfl))), rfl⟩
theorem m446 : Cond.methodLink "StreamSealModel" 106 yM_settle ∈ gT := List.mem_filter.mpr ⟨List.mem_append_right _ (List.mem_append_right _ (List.mem_append_left _ (List.mem_of_getElem? (l := tables_1_2) (i := 206) rfl))), rfl⟩
theorem m448 : Cond.instanceMethod yM_settle ∈ gT := List.mem_filter.mpr ⟨List.mem_append_right _ (List.mem_append_right _ (List.mem_append_left _ (List.mem_of_getElem? (l := tables_1_2) (i := 208) rfl))), rfl⟩
theorem m449 : Cond.code yM_settle prog_6_method_12_code 3 none ∈ gT := List.mem_filter.mpr ⟨List.mem_append_right _ (List.mem_append_right _ (List.mem_append_left _ (List.mem_of_getElem? (l := tables_1_2) (i := 209) rfl))), rfl⟩
theorem m450 : Cond.methodLink "StreamSealModel" 103 yM_carry ∈ gT := List.mem_filter.mpr ⟨List.mem_append_right _ (List.mem_append_right _ (List.mem_append_left _ (List.mem_of_getElem? (l := tables_1_2) (i := 210) rfl))), rfl⟩
theorem m452 : Cond.instanceMethod yM_carry ∈ gT := List.mem_filter.mpr ⟨List.mem_append_right _ (List.mem_append_right _ (List.mem_append_left _ (List.mem_of_getElem? (l := tables_1_2) (i := 212) rfl))), rfl⟩
theorem m453 : Cond.code yM_carry prog_6_method_11_code 2 none ∈ gT := List.mem_filter.mpr ⟨List.mem_append_right _ (List.mem_append_right _ (List.mem_append_left _ (List.mem_of_getElem? (l := tables_1_2) (i := 213) rfl))), rfl⟩
theorem m454 : Cond.methodLink "StreamSealModel" 130 yM_tag ∈ gT := List.mem_filter.mpr ⟨List.mem_append_right _ (List.mem_append_right _ (List.mem_append_left _ (List.mem_of_getElem? (l := tables_1_2) (i := 214) rfl))), rfl⟩
theorem m456 : Cond.instanceMethod yM_tag ∈ gT := List.mem_filter.mpr ⟨List.mem_append_right _ (List.mem_append_right _ (List.mem_append_left _ (List.mem_of_getElem? (l := tables_1_2) (i := 216) rfl))), rfl⟩
theorem m457 : Cond.code yM_tag prog_6_method_24_code 2 (some FieldType.int) ∈ gT := List.mem_filter.mpr ⟨List.mem_append_right _ (List.mem_append_right _ (List.mem_append_left _ (List.mem_of_getElem? (l := tables_1_2) (i := 217) rfl))), rfl⟩
theorem m458 : Cond.methodLink "StreamSealLaw" 50 yM_seal ∈ gT := List.mem_filter.mpr ⟨List.mem_append_right _ (List.mem_append_right _ (List.mem_append_left _ (List.mem_of_getElem? (l := tables_1_2) (i := 218) rfl))), rfl⟩
theorem m459 : Cond.instanceMethod yM_seal ∈ gT := List.mem_filter.mpr ⟨List.mem_append_right _ (List.mem_append_right _ (List.mem_append_left _ (List.mem_of_getElem? (l := tables_1_2) (i := 219) rfl))), rfl⟩
theorem m460 : Cond.selects "StreamSealModel" yM_seal yM_seal ∈ gT := List.mem_filter.mpr ⟨List.mem_append_right _ (List.mem_append_right _ (List.mem_append_left _ (List.mem_of_getElem? (l := tables_1_2) (i := 220) rfl))), rfl⟩
theorem m461 : Cond.code yM_seal prog_6_method_26_code 3 (some FieldType.int) ∈ gT := List.mem_filter.mpr ⟨List.mem_append_right _ (List.mem_append_right _ (List.mem_append_left _ (List.mem_of_getElem? (l := tables_1_2) (i := 221) rfl))), rfl⟩
theorem m462 : Cond.methodLink "StreamSealModel" 133 yM_cover ∈ gT := List.mem_filter.mpr ⟨List.mem_append_right _ (List.mem_append_right _ (List.mem_append_left _ (List.mem_of_getElem? (l := tables_1_2) (i := 222) rfl))), rfl⟩
theorem m464 : Cond.instanceMethod yM_cover ∈ gT := List.mem_filter.mpr ⟨List.mem_append_right _ (List.mem_append_right _ (List.mem_append_left _ (List.mem_of_getElem? (l := tables_1_2) (i := 224) rfl))), rfl⟩
theorem m465 : Cond.code yM_cover prog_6_method_16_code 5 none ∈ gT := List.mem_filter.mpr ⟨List.mem_append_right _ (List.mem_append_right _ (List.mem_append_left _ (List.mem_of_getElem? (l := tables_1_2) (i := 225) rfl))), rfl⟩
theorem m466 : Cond.methodLink "StreamSealModel" 137 yM_seals ∈ gT := List.mem_filter.mpr ⟨List.mem_append_right _ (List.mem_append_right _ (List.mem_append_left _ (List.mem_of_getElem? (l := tables_1_2) (i := 226) rfl))), rfl⟩
theorem m468 : Cond.instanceMethod yM_seals ∈ gT := List.mem_filter.mpr ⟨List.mem_append_right _ (List.mem_append_right _ (List.mem_append_left _ (List.mem_of_getElem? (l := tables_1_2) (i := 228) rfl))), rfl⟩
theorem m469 : Cond.code yM_seals prog_6_method_15_code 6 none ∈ gT := List.mem_filter.mpr ⟨List.mem_append_right _ (List.mem_append_right _ (List.mem_append_left _ (List.mem_of_getElem? (l := tables_1_2) (i := 229) rfl))), rfl⟩
theorem m470 : Cond.methodLink "StreamSealModel" 112 yM_text ∈ gT := List.mem_filter.mpr ⟨List.mem_append_right _ (List.mem_append_right _ (List.mem_append_left _ (List.mem_of_getElem? (l := tables_1_2) (i := 230) rfl))), rfl⟩
theorem m472 : Cond.instanceMethod yM_text ∈ gT := List.mem_filter.mpr ⟨List.mem_append_right _ (List.mem_append_right _ (List.mem_append_left _ (List.mem_of_getElem? (l := tables_1_2) (i := 232) rfl))), rfl⟩
theorem m473 : Cond.code yM_text prog_6_method_14_code 5 none ∈ gT := List.mem_filter.mpr ⟨List.mem_append_right _ (List.mem_append_right _ (List.mem_append_left _ (List.mem_of_getElem? (l := tables_1_2) (i := 233) rfl))), rfl⟩
theorem m474 : Cond.methodLink "StreamSealLaw" 54 yM_open ∈ gT := List.mem_filter.mpr ⟨List.mem_append_right _ (List.mem_append_right _ (List.mem_append_left _ (List.mem_of_getElem? (l := tables_1_2) (i := 234) rfl))), rfl⟩
theorem m475 : Cond.instanceMethod yM_open ∈ gT := List.mem_filter.mpr ⟨List.mem_append_right _ (List.mem_append_right _ (List.mem_append_left _ (List.mem_of_getElem? (l := tables_1_2) (i := 235) rfl))), rfl⟩
theorem m476 : Cond.selects "StreamSealModel" yM_open yM_open ∈ gT := List.mem_filter.mpr ⟨List.mem_append_right _ (List.mem_append_right _ (List.mem_append_left _ (List.mem_of_getElem? (l := tables_1_2) (i := 236) rfl))), rfl⟩
theorem m477 : Cond.code yM_open prog_6_method_27_code 5 (some FieldType.int) ∈ gT := List.mem_filter.mpr ⟨List.mem_append_right _ (List.mem_append_right _ (List.mem_append_left _ (List.mem_of_getElem? (l := tables_1_2) (i := 237) rfl))), rfl⟩
theorem m478 : Cond.methodLink "StreamSealLaw" 58 yM_digest ∈ gT := List.mem_filter.mpr ⟨List.mem_append_right _ (List.mem_append_right _ (List.mem_append_left _ (List.mem_of_getElem? (l := tables_1_2) (i := 238) rfl))), rfl⟩
theorem m479 : Cond.instanceMethod yM_digest ∈ gT := List.mem_filter.mpr ⟨List.mem_append_right _ (List.mem_append_right _ (List.mem_append_left _ (List.mem_of_getElem? (l := tables_1_2) (i := 239) rfl))), rfl⟩
theorem m480 : Cond.selects "StreamSealModel" yM_digest yM_digest ∈ gT := List.mem_filter.mpr ⟨List.mem_append_right _ (List.mem_append_right _ (List.mem_append_right _ (List.mem_of_getElem? (l := tables_1_3) (i := 0) rfl))), rfl⟩
theorem m481 : Cond.code yM_digest prog_6_method_28_code 1 (some FieldType.int) ∈ gT := List.mem_filter.mpr ⟨List.mem_append_right _ (List.mem_append_right _ (List.mem_append_right _ (List.mem_of_getElem? (l := tables_1_3) (i := 1) rfl))), rfl⟩
theorem m482 : Cond.methodLink "StreamSealModel" 141 yM_addArr ∈ gT := List.mem_filter.mpr ⟨List.mem_append_right _ (List.mem_append_right _ (List.mem_append_right _ (List.mem_of_getElem? (l := tables_1_3) (i := 2) rfl))), rfl⟩
theorem m484 : Cond.instanceMethod yM_addArr ∈ gT := List.mem_filter.mpr ⟨List.mem_append_right _ (List.mem_append_right _ (List.mem_append_right _ (List.mem_of_getElem? (l := tables_1_3) (i := 4) rfl))), rfl⟩
theorem m485 : Cond.code yM_addArr prog_6_method_3_code 5 none ∈ gT := List.mem_filter.mpr ⟨List.mem_append_right _ (List.mem_append_right _ (List.mem_append_right _ (List.mem_of_getElem? (l := tables_1_3) (i := 5) rfl))), rfl⟩
theorem m486 : Cond.methodLink "StreamSealModel" 67 yM_add ∈ gT := List.mem_filter.mpr ⟨List.mem_append_right _ (List.mem_append_right _ (List.mem_append_right _ (List.mem_of_getElem? (l := tables_1_3) (i := 6) rfl))), rfl⟩
theorem m488 : Cond.instanceMethod yM_add ∈ gT := List.mem_filter.mpr ⟨List.mem_append_right _ (List.mem_append_right _ (List.mem_append_right _ (List.mem_of_getElem? (l := tables_1_3) (i := 8) rfl))), rfl⟩
theorem m489 : Cond.code yM_add prog_6_method_2_code 2 none ∈ gT := List.mem_filter.mpr ⟨List.mem_append_right _ (List.mem_append_right _ (List.mem_append_right _ (List.mem_of_getElem? (l := tables_1_3) (i := 9) rfl))), rfl⟩
theorem m490 : Cond.methodLink "StreamSealModel" 143 yM_hashTo ∈ gT := List.mem_filter.mpr ⟨List.mem_append_right _ (List.mem_append_right _ (List.mem_append_right _ (List.mem_of_getElem? (l := tables_1_3) (i := 10) rfl))), rfl⟩
theorem m492 : Cond.instanceMethod yM_hashTo ∈ gT := List.mem_filter.mpr ⟨List.mem_append_right _ (List.mem_append_right _ (List.mem_append_right _ (List.mem_of_getElem? (l := tables_1_3) (i := 12) rfl))), rfl⟩
theorem m493 : Cond.code yM_hashTo prog_6_method_6_code 5 none ∈ gT := List.mem_filter.mpr ⟨List.mem_append_right _ (List.mem_append_right _ (List.mem_append_right _ (List.mem_of_getElem? (l := tables_1_3) (i := 13) rfl))), rfl⟩
theorem m494 : Cond.fieldLink "StreamSealModel" 80 "StreamSealModel" "BEGIN" "[I" ∈ gT := List.mem_filter.mpr ⟨List.mem_append_right _ (List.mem_append_right _ (List.mem_append_right _ (List.mem_of_getElem? (l := tables_1_3) (i := 14) rfl))), rfl⟩
theorem m496 : Cond.constantLong "StreamSealModel" 71 4294967295 ∈ gT := List.mem_filter.mpr ⟨List.mem_append_right _ (List.mem_append_right _ (List.mem_append_right _ (List.mem_of_getElem? (l := tables_1_3) (i := 16) rfl))), rfl⟩
theorem m497 : Cond.methodLink "StreamSealModel" 83 yM_hblock ∈ gT := List.mem_filter.mpr ⟨List.mem_append_right _ (List.mem_append_right _ (List.mem_append_right _ (List.mem_of_getElem? (l := tables_1_3) (i := 17) rfl))), rfl⟩
theorem m499 : Cond.instanceMethod yM_hblock ∈ gT := List.mem_filter.mpr ⟨List.mem_append_right _ (List.mem_append_right _ (List.mem_append_right _ (List.mem_of_getElem? (l := tables_1_3) (i := 19) rfl))), rfl⟩
theorem m500 : Cond.code yM_hblock prog_6_method_5_code 25 none ∈ gT := List.mem_filter.mpr ⟨List.mem_append_right _ (List.mem_append_right _ (List.mem_append_right _ (List.mem_of_getElem? (l := tables_1_3) (i := 20) rfl))), rfl⟩
theorem m501 : Cond.methodLink "StreamSealModel" 73 yM_turn ∈ gT := List.mem_filter.mpr ⟨List.mem_append_right _ (List.mem_append_right _ (List.mem_append_right _ (List.mem_of_getElem? (l := tables_1_3) (i := 21) rfl))), rfl⟩
theorem m502 : Cond.static yM_turn ∈ gT := List.mem_filter.mpr ⟨List.mem_append_right _ (List.mem_append_right _ (List.mem_append_right _ (List.mem_of_getElem? (l := tables_1_3) (i := 22) rfl))), rfl⟩
theorem m503 : Cond.code yM_turn prog_6_method_4_code 3 (some FieldType.long) ∈ gT := List.mem_filter.mpr ⟨List.mem_append_right _ (List.mem_append_right _ (List.mem_append_right _ (List.mem_of_getElem? (l := tables_1_3) (i := 23) rfl))), rfl⟩
theorem m504 : Cond.fieldLink "StreamSealModel" 77 "StreamSealModel" "ROUND" "[I" ∈ gT := List.mem_filter.mpr ⟨List.mem_append_right _ (List.mem_append_right _ (List.mem_append_right _ (List.mem_of_getElem? (l := tables_1_3) (i := 24) rfl))), rfl⟩
theorem m506 : Cond.methodLink "StreamSealLaw" 62 yM_mac ∈ gT := List.mem_filter.mpr ⟨List.mem_append_right _ (List.mem_append_right _ (List.mem_append_right _ (List.mem_of_getElem? (l := tables_1_3) (i := 26) rfl))), rfl⟩
theorem m507 : Cond.instanceMethod yM_mac ∈ gT := List.mem_filter.mpr ⟨List.mem_append_right _ (List.mem_append_right _ (List.mem_append_right _ (List.mem_of_getElem? (l := tables_1_3) (i := 27) rfl))), rfl⟩
theorem m508 : Cond.selects "StreamSealModel" yM_mac yM_mac ∈ gT := List.mem_filter.mpr ⟨List.mem_append_right _ (List.mem_append_right _ (List.mem_append_right _ (List.mem_of_getElem? (l := tables_1_3) (i := 28) rfl))), rfl⟩
theorem m509 : Cond.code yM_mac prog_6_method_29_code 2 (some FieldType.int) ∈ gT := List.mem_filter.mpr ⟨List.mem_append_right _ (List.mem_append_right _ (List.mem_append_right _ (List.mem_of_getElem? (l := tables_1_3) (i := 29) rfl))), rfl⟩
theorem m510 : Cond.methodLink "StreamSealLaw" 66 yM_octet ∈ gT := List.mem_filter.mpr ⟨List.mem_append_right _ (List.mem_append_right _ (List.mem_append_right _ (List.mem_of_getElem? (l := tables_1_3) (i := 30) rfl))), rfl⟩
theorem m511 : Cond.instanceMethod yM_octet ∈ gT := List.mem_filter.mpr ⟨List.mem_append_right _ (List.mem_append_right _ (List.mem_append_right _ (List.mem_of_getElem? (l := tables_1_3) (i := 31) rfl))), rfl⟩
theorem m512 : Cond.selects "StreamSealModel" yM_octet yM_octet ∈ gT := List.mem_filter.mpr ⟨List.mem_append_right _ (List.mem_append_right _ (List.mem_append_right _ (List.mem_of_getElem? (l := tables_1_3) (i := 32) rfl))), rfl⟩
theorem m513 : Cond.code yM_octet prog_6_method_30_code 2 (some FieldType.int) ∈ gT := List.mem_filter.mpr ⟨List.mem_append_right _ (List.mem_append_right _ (List.mem_append_right _ (List.mem_of_getElem? (l := tables_1_3) (i := 33) rfl))), rfl⟩
theorem m514 : Cond.constantLong "StreamSealLaw" 32 4294967295 ∈ gT := List.mem_filter.mpr ⟨List.mem_append_right _ (List.mem_append_right _ (List.mem_append_right _ (List.mem_of_getElem? (l := tables_1_3) (i := 34) rfl))), rfl⟩
theorem ms0 : Cond.selects "StreamSeal" yS_tapeReaches yS_tapeReaches ∈ gT := List.mem_filter.mpr ⟨List.mem_append_left _ (List.mem_of_getElem? (l := k2_sels lw_privs) (i := 0) rfl), rfl⟩
theorem ms1 : Cond.selects "StreamSeal$ChaCha20" yC_lay yC_lay ∈ gT := List.mem_filter.mpr ⟨List.mem_append_left _ (List.mem_of_getElem? (l := k2_sels lw_privs) (i := 1) rfl), rfl⟩
theorem ms2 : Cond.selects "StreamSeal$ChaCha20" yC_mixColumns yC_mixColumns ∈ gT := List.mem_filter.mpr ⟨List.mem_append_left _ (List.mem_of_getElem? (l := k2_sels lw_privs) (i := 2) rfl), rfl⟩
theorem ms3 : Cond.selects "StreamSeal$ChaCha20" yC_mixQuarter yC_mixQuarter ∈ gT := List.mem_filter.mpr ⟨List.mem_append_left _ (List.mem_of_getElem? (l := k2_sels lw_privs) (i := 3) rfl), rfl⟩
theorem ms4 : Cond.selects "StreamSeal$ChaCha20" yC_mixDiagonals yC_mixDiagonals ∈ gT := List.mem_filter.mpr ⟨List.mem_append_left _ (List.mem_of_getElem? (l := k2_sels lw_privs) (i := 4) rfl), rfl⟩
theorem ms5 : Cond.selects "StreamSeal$Poly1305" yP_clampBlock yP_clampBlock ∈ gT := List.mem_filter.mpr ⟨List.mem_append_left _ (List.mem_of_getElem? (l := k2_sels lw_privs) (i := 5) rfl), rfl⟩
theorem ms6 : Cond.selects "StreamSeal$Poly1305" yP_blockPart yP_blockPart ∈ gT := List.mem_filter.mpr ⟨List.mem_append_left _ (List.mem_of_getElem? (l := k2_sels lw_privs) (i := 6) rfl), rfl⟩
theorem ms7 : Cond.selects "StreamSeal$Poly1305" yP_addBlock yP_addBlock ∈ gT := List.mem_filter.mpr ⟨List.mem_append_left _ (List.mem_of_getElem? (l := k2_sels lw_privs) (i := 7) rfl), rfl⟩
theorem ms8 : Cond.selects "StreamSeal$Poly1305" yP_multiply yP_multiply ∈ gT := List.mem_filter.mpr ⟨List.mem_append_left _ (List.mem_of_getElem? (l := k2_sels lw_privs) (i := 8) rfl), rfl⟩
theorem ms9 : Cond.selects "StreamSeal$Poly1305" yP_carry yP_carry ∈ gT := List.mem_filter.mpr ⟨List.mem_append_left _ (List.mem_of_getElem? (l := k2_sels lw_privs) (i := 9) rfl), rfl⟩
theorem ms10 : Cond.selects "StreamSeal$Poly1305" yP_takePrimeOff yP_takePrimeOff ∈ gT := List.mem_filter.mpr ⟨List.mem_append_left _ (List.mem_of_getElem? (l := k2_sels lw_privs) (i := 10) rfl), rfl⟩
theorem ms11 : Cond.selects "StreamSeal" yS_streamTapeToOut yS_streamTapeToOut ∈ gT := List.mem_filter.mpr ⟨List.mem_append_left _ (List.mem_of_getElem? (l := k2_sels lw_privs) (i := 11) rfl), rfl⟩
theorem ms12 : Cond.selects "StreamSeal" yS_sumSealed yS_sumSealed ∈ gT := List.mem_filter.mpr ⟨List.mem_append_left _ (List.mem_of_getElem? (l := k2_sels lw_privs) (i := 12) rfl), rfl⟩
theorem ms13 : Cond.selects "StreamSeal" yS_sumStandsAt yS_sumStandsAt ∈ gT := List.mem_filter.mpr ⟨List.mem_append_left _ (List.mem_of_getElem? (l := k2_sels lw_privs) (i := 13) rfl), rfl⟩
theorem ms14 : Cond.selects "StreamSeal$Sha256" yH_addByte yH_addByte ∈ gT := List.mem_filter.mpr ⟨List.mem_append_left _ (List.mem_of_getElem? (l := k2_sels lw_privs) (i := 14) rfl), rfl⟩
theorem ms15 : Cond.selects "StreamSeal$Sha256" yH_spreadBlock yH_spreadBlock ∈ gT := List.mem_filter.mpr ⟨List.mem_append_left _ (List.mem_of_getElem? (l := k2_sels lw_privs) (i := 15) rfl), rfl⟩
theorem ms16 : Cond.selects "StreamSeal$Sha256" yH_mixBlock yH_mixBlock ∈ gT := List.mem_filter.mpr ⟨List.mem_append_left _ (List.mem_of_getElem? (l := k2_sels lw_privs) (i := 16) rfl), rfl⟩
theorem ms17 : Cond.selects "StreamSeal$Sha256" yH_mixRound yH_mixRound ∈ gT := List.mem_filter.mpr ⟨List.mem_append_left _ (List.mem_of_getElem? (l := k2_sels lw_privs) (i := 17) rfl), rfl⟩
theorem ms18 : Cond.selects "StreamSealModel" yM_put yM_put ∈ gT := List.mem_filter.mpr ⟨List.mem_append_left _ (List.mem_of_getElem? (l := k2_sels lw_privs) (i := 18) rfl), rfl⟩
theorem ms19 : Cond.selects "StreamSealModel" yM_block yM_block ∈ gT := List.mem_filter.mpr ⟨List.mem_append_left _ (List.mem_of_getElem? (l := k2_sels lw_privs) (i := 19) rfl), rfl⟩
theorem ms20 : Cond.selects "StreamSealModel" yM_mix yM_mix ∈ gT := List.mem_filter.mpr ⟨List.mem_append_left _ (List.mem_of_getElem? (l := k2_sels lw_privs) (i := 20) rfl), rfl⟩
theorem ms21 : Cond.selects "StreamSealModel" yM_sumOf yM_sumOf ∈ gT := List.mem_filter.mpr ⟨List.mem_append_left _ (List.mem_of_getElem? (l := k2_sels lw_privs) (i := 21) rfl), rfl⟩
theorem ms22 : Cond.selects "StreamSealModel" yM_settle yM_settle ∈ gT := List.mem_filter.mpr ⟨List.mem_append_left _ (List.mem_of_getElem? (l := k2_sels lw_privs) (i := 22) rfl), rfl⟩
theorem ms23 : Cond.selects "StreamSealModel" yM_carry yM_carry ∈ gT := List.mem_filter.mpr ⟨List.mem_append_left _ (List.mem_of_getElem? (l := k2_sels lw_privs) (i := 23) rfl), rfl⟩
theorem ms24 : Cond.selects "StreamSealModel" yM_tag yM_tag ∈ gT := List.mem_filter.mpr ⟨List.mem_append_left _ (List.mem_of_getElem? (l := k2_sels lw_privs) (i := 24) rfl), rfl⟩
theorem ms25 : Cond.selects "StreamSealModel" yM_cover yM_cover ∈ gT := List.mem_filter.mpr ⟨List.mem_append_left _ (List.mem_of_getElem? (l := k2_sels lw_privs) (i := 25) rfl), rfl⟩
theorem ms26 : Cond.selects "StreamSealModel" yM_seals yM_seals ∈ gT := List.mem_filter.mpr ⟨List.mem_append_left _ (List.mem_of_getElem? (l := k2_sels lw_privs) (i := 26) rfl), rfl⟩
theorem ms27 : Cond.selects "StreamSealModel" yM_text yM_text ∈ gT := List.mem_filter.mpr ⟨List.mem_append_left _ (List.mem_of_getElem? (l := k2_sels lw_privs) (i := 27) rfl), rfl⟩
theorem ms28 : Cond.selects "StreamSealModel" yM_addArr yM_addArr ∈ gT := List.mem_filter.mpr ⟨List.mem_append_left _ (List.mem_of_getElem? (l := k2_sels lw_privs) (i := 28) rfl), rfl⟩
theorem ms29 : Cond.selects "StreamSealModel" yM_add yM_add ∈ gT := List.mem_filter.mpr ⟨List.mem_append_left _ (List.mem_of_getElem? (l := k2_sels lw_privs) (i := 29) rfl), rfl⟩
theorem ms30 : Cond.selects "StreamSealModel" yM_hashTo yM_hashTo ∈ gT := List.mem_filter.mpr ⟨List.mem_append_left _ (List.mem_of_getElem? (l := k2_sels lw_privs) (i := 30) rfl), rfl⟩
theorem ms31 : Cond.selects "StreamSealModel" yM_hblock yM_hblock ∈ gT := List.mem_filter.mpr ⟨List.mem_append_left _ (List.mem_of_getElem? (l := k2_sels lw_privs) (i := 31) rfl), rfl⟩
set_option maxRecDepth 20000 in
theorem inX0 : ∀ w ∈ u_ws RX0 TX0 2, w ∈ gT := by
  show ∀ w ∈ [(Cond.laysFinal "StreamSeal$ChaCha20" "StreamSeal$ChaCha20" "first" "[I"), (Cond.laysFinal "StreamSeal$ChaCha20" "StreamSeal$ChaCha20" "mixed" "[I")], w ∈ gT
  exact List.forall_mem_cons.mpr ⟨m25, List.forall_mem_cons.mpr ⟨m27, fun _ h => absurd h List.not_mem_nil⟩⟩
set_option maxRecDepth 20000 in
theorem inX1 : ∀ w ∈ u_ws RX1 TX1 6, w ∈ gT := by
  show ∀ w ∈ [(Cond.laysFinal "StreamSeal$Poly1305" "StreamSeal$Poly1305" "factor" "[J"), (Cond.laysFinal "StreamSeal$Poly1305" "StreamSeal$Poly1305" "total" "[J"), (Cond.laysFinal "StreamSeal$Poly1305" "StreamSeal$Poly1305" "product" "[J"), (Cond.laysFinal "StreamSeal$Poly1305" "StreamSeal$Poly1305" "words" "[J"), (Cond.laysFinal "StreamSeal$Poly1305" "StreamSeal$Poly1305" "last" "[I"), (Cond.laysFinal "StreamSeal$Poly1305" "StreamSeal$Poly1305" "block" "[B")], w ∈ gT
  exact List.forall_mem_cons.mpr ⟨m44, List.forall_mem_cons.mpr ⟨m46, List.forall_mem_cons.mpr ⟨m48, List.forall_mem_cons.mpr ⟨m50, List.forall_mem_cons.mpr ⟨m52, List.forall_mem_cons.mpr ⟨m54, fun _ h => absurd h List.not_mem_nil⟩⟩⟩⟩⟩⟩
set_option maxRecDepth 20000 in
theorem inX2 : ∀ w ∈ u_ws RX2 TX2 6, w ∈ gT := by
  show ∀ w ∈ [(Cond.laysFinal "StreamSeal$Sha256" "StreamSeal$Sha256" "state" "[I"), (Cond.laysFinal "StreamSeal$Sha256" "StreamSeal$Sha256" "schedule" "[I"), (Cond.laysFinal "StreamSeal$Sha256" "StreamSeal$Sha256" "round" "[I"), (Cond.laysFinal "StreamSeal$Sha256" "StreamSeal$Sha256" "block" "[B"), (Cond.lays "StreamSeal$Sha256" "StreamSeal$Sha256" "filled" "I"), (Cond.lays "StreamSeal$Sha256" "StreamSeal$Sha256" "size" "I")], w ∈ gT
  exact List.forall_mem_cons.mpr ⟨m70, List.forall_mem_cons.mpr ⟨m72, List.forall_mem_cons.mpr ⟨m74, List.forall_mem_cons.mpr ⟨m76, List.forall_mem_cons.mpr ⟨m78, List.forall_mem_cons.mpr ⟨m80, fun _ h => absurd h List.not_mem_nil⟩⟩⟩⟩⟩⟩
set_option maxRecDepth 20000 in
theorem inX3 : ∀ w ∈ u_ws RX3 TX3 12, w ∈ gT := by
  show ∀ w ∈ [(Cond.laysFinal "StreamSeal" "StreamSeal" "tape" "[B"), (Cond.lays "StreamSeal" "StreamSeal" "tapeSize" "I"), (Cond.laysFinal "StreamSeal" "StreamSeal" "out" "[B"), (Cond.lays "StreamSeal" "StreamSeal" "outSize" "I"), (Cond.laysFinal "StreamSeal" "StreamSeal" "keyBytes" "[B"), (Cond.laysFinal "StreamSeal" "StreamSeal" "nonceBytes" "[B"), (Cond.laysFinal "StreamSeal" "StreamSeal" "streamBytes" "[B"), (Cond.laysFinal "StreamSeal" "StreamSeal" "sizeBytes" "[B"), (Cond.laysFinal "StreamSeal" "StreamSeal" "sumBytes" "[B"), (Cond.laysFinal "StreamSeal" "StreamSeal" "streamer" "LStreamSeal$ChaCha20;"), (Cond.laysFinal "StreamSeal" "StreamSeal" "summer" "LStreamSeal$Poly1305;"), (Cond.laysFinal "StreamSeal" "StreamSeal" "digester" "LStreamSeal$Sha256;")], w ∈ gT
  exact List.forall_mem_cons.mpr ⟨m95, List.forall_mem_cons.mpr ⟨m97, List.forall_mem_cons.mpr ⟨m99, List.forall_mem_cons.mpr ⟨m101, List.forall_mem_cons.mpr ⟨m103, List.forall_mem_cons.mpr ⟨m105, List.forall_mem_cons.mpr ⟨m107, List.forall_mem_cons.mpr ⟨m109, List.forall_mem_cons.mpr ⟨m111, List.forall_mem_cons.mpr ⟨m113, List.forall_mem_cons.mpr ⟨m115, List.forall_mem_cons.mpr ⟨m117, fun _ h => absurd h List.not_mem_nil⟩⟩⟩⟩⟩⟩⟩⟩⟩⟩⟩⟩
set_option maxRecDepth 20000 in
theorem inX4 : ∀ w ∈ u_ws RX4 TX4 21, w ∈ gT := by
  show ∀ w ∈ [(Cond.laysFinal "StreamSealModel" "StreamSealModel" "tape" "[B"), (Cond.lays "StreamSealModel" "StreamSealModel" "tapeLength" "I"), (Cond.laysFinal "StreamSealModel" "StreamSealModel" "out" "[B"), (Cond.lays "StreamSealModel" "StreamSealModel" "outCount" "I"), (Cond.laysFinal "StreamSealModel" "StreamSealModel" "key" "[B"), (Cond.laysFinal "StreamSealModel" "StreamSealModel" "nonce" "[B"), (Cond.laysFinal "StreamSealModel" "StreamSealModel" "row" "[B"), (Cond.lays "StreamSealModel" "StreamSealModel" "rowCount" "I"), (Cond.laysFinal "StreamSealModel" "StreamSealModel" "h" "[J"), (Cond.laysFinal "StreamSealModel" "StreamSealModel" "w" "[J"), (Cond.laysFinal "StreamSealModel" "StreamSealModel" "one" "[B"), (Cond.laysFinal "StreamSealModel" "StreamSealModel" "v" "[I"), (Cond.laysFinal "StreamSealModel" "StreamSealModel" "begin" "[I"), (Cond.laysFinal "StreamSealModel" "StreamSealModel" "stream" "[B"), (Cond.laysFinal "StreamSealModel" "StreamSealModel" "sum" "[I"), (Cond.laysFinal "StreamSealModel" "StreamSealModel" "product" "[I"), (Cond.laysFinal "StreamSealModel" "StreamSealModel" "\x72" "[I"), (Cond.laysFinal "StreamSealModel" "StreamSealModel" "text" "[B"), (Cond.laysFinal "StreamSealModel" "StreamSealModel" "tag" "[B"), (Cond.laysFinal "StreamSealModel" "StreamSealModel" "above" "[I"), (Cond.lays "StreamSealModel" "StreamSealModel" "texts" "I")], w ∈ gT
  exact List.forall_mem_cons.mpr ⟨m349, List.forall_mem_cons.mpr ⟨m351, List.forall_mem_cons.mpr ⟨m353, List.forall_mem_cons.mpr ⟨m355, List.forall_mem_cons.mpr ⟨m357, List.forall_mem_cons.mpr ⟨m359, List.forall_mem_cons.mpr ⟨m361, List.forall_mem_cons.mpr ⟨m363, List.forall_mem_cons.mpr ⟨m365, List.forall_mem_cons.mpr ⟨m367, List.forall_mem_cons.mpr ⟨m369, List.forall_mem_cons.mpr ⟨m371, List.forall_mem_cons.mpr ⟨m373, List.forall_mem_cons.mpr ⟨m375, List.forall_mem_cons.mpr ⟨m377, List.forall_mem_cons.mpr ⟨m379, List.forall_mem_cons.mpr ⟨m381, List.forall_mem_cons.mpr ⟨m383, List.forall_mem_cons.mpr ⟨m385, List.forall_mem_cons.mpr ⟨m387, List.forall_mem_cons.mpr ⟨m389, fun _ h => absurd h List.not_mem_nil⟩⟩⟩⟩⟩⟩⟩⟩⟩⟩⟩⟩⟩⟩⟩⟩⟩⟩⟩⟩⟩
def tFIRST (j : Nat) : Int32 := [1779033703, -1150833019, 1013904242, -1521486534, 1359893119, -1694144372, 528734635, 1541459225].getD j 0
def tADDED (j : Nat) : Int32 := [1116352408, 1899447441, -1245643825, -373957723, 961987163, 1508970993, -1841331548, -1424204075, -670586216, 310598401, 607225278, 1426881987, 1925078388, -2132889090, -1680079193, -1046744716, -459576895, -272742522, 264347078, 604807628, 770255983, 1249150122, 1555081692, 1996064986, -1740746414, -1473132947, -1341970488, -1084653625, -958395405, -710438585, 113926993, 338241895, 666307205, 773529912, 1294757372, 1396182291, 1695183700, 1986661051, -2117940946, -1838011259, -1564481375, -1474664885, -1035236496, -949202525, -778901479, -694614492, -200395387, 275423344, 430227734, 506948616, 659060556, 883997877, 958139571, 1322822218, 1537002063, 1747873779, 1955562222, 2024104815, -2067236844, -1933114872, -1866530822, -1538233109, -1090935817, -965641998].getD j 0
def tBEGIN (j : Nat) : Int32 := [1779033703, -1150833019, 1013904242, -1521486534, 1359893119, -1694144372, 528734635, 1541459225].getD j 0
def tROUND (j : Nat) : Int32 := [1116352408, 1899447441, -1245643825, -373957723, 961987163, 1508970993, -1841331548, -1424204075, -670586216, 310598401, 607225278, 1426881987, 1925078388, -2132889090, -1680079193, -1046744716, -459576895, -272742522, 264347078, 604807628, 770255983, 1249150122, 1555081692, 1996064986, -1740746414, -1473132947, -1341970488, -1084653625, -958395405, -710438585, 113926993, 338241895, 666307205, 773529912, 1294757372, 1396182291, 1695183700, 1986661051, -2117940946, -1838011259, -1564481375, -1474664885, -1035236496, -949202525, -778901479, -694614492, -200395387, 275423344, 430227734, 506948616, 659060556, 883997877, 958139571, 1322822218, 1537002063, 1747873779, 1955562222, 2024104815, -2067236844, -1933114872, -1866530822, -1538233109, -1090935817, -965641998].getD j 0
def sT : List (String × String × String × FieldType × Nat × (Nat → Value)) := [("StreamSeal$Sha256", "FIRST", "[I", .int, 8, fun j => .int (tFIRST j)), ("StreamSeal$Sha256", "ADDED", "[I", .int, 64, fun j => .int (tADDED j)), ("StreamSealModel", "BEGIN", "[I", .int, 8, fun j => .int (tBEGIN j)), ("StreamSealModel", "ROUND", "[I", .int, 64, fun j => .int (tROUND j))]
def nW : List (String × Nat × MethodName × String) := [("StreamSeal$ChaCha20", 42, yS_readLowestFirst, "StreamSeal"), ("StreamSeal$ChaCha20", 50, yS_turnLeft, "StreamSeal"), ("StreamSeal$ChaCha20", 32, yS_writeLowestFirst, "StreamSeal"), ("StreamSeal$Poly1305", 43, yS_readLowestFirst, "StreamSeal"), ("StreamSeal$Poly1305", 67, yS_writeLowestFirst, "StreamSeal"), ("StreamSeal$Sha256", 55, yS_readHighestFirst, "StreamSeal"), ("StreamSeal$Sha256", 59, yS_turnRight, "StreamSeal"), ("StreamSeal$Sha256", 43, yS_writeHighestFirst, "StreamSeal")]
end
section
def cT (y : MethodName) (c : ByteArray) (n : Nat) (ret : Option FieldType) : List Cond := .code y c n ret :: gT
theorem cT_in {y : MethodName} {c : ByteArray} {n : Nat} {ret : Option FieldType} : ∀ w ∈ gT, w ∈ cT y c n ret := fun _ h => List.mem_cons_of_mem _ h
theorem gdT {y : MethodName} {c : ByteArray} {n : Nat} {ret : Option FieldType} (h : Cond.code y c n ret ∈ gT) : GoodIn gT (cT y c n ret) := fun w hw => (List.mem_cons.mp hw).elim (fun e => e ▸ gT_good _ h) (fun e => gT_good _ e)
theorem gd_app {a b : List Cond} (ha : ∀ w ∈ a, w ∈ gT) (hb : GoodIn gT b) : GoodIn gT (a ++ b) := fun w h => (List.mem_append.mp h).elim (fun e => gT_good _ (ha w e)) (hb w)
theorem gdV {own C : String} {idx : Nat} {y : MethodName} {c : ByteArray} {n : Nat} {ret : Option FieldType} (h1 : Cond.methodLink own idx y ∈ gT) (h2 : Cond.instanceMethod y ∈ gT) (h3 : Cond.selects C y y ∈ gT) (h4 : Cond.initialized C ∈ gT) (h : Cond.code y c n ret ∈ gT) : GoodIn gT (wsV own idx C y (cT y c n ret)) :=
  gd_app (List.forall_mem_cons.mpr ⟨h1, List.forall_mem_cons.mpr ⟨h2, List.forall_mem_cons.mpr ⟨h3, List.forall_mem_cons.mpr ⟨h4, fun _ h => absurd h List.not_mem_nil⟩⟩⟩⟩) (gdT h)
theorem gdS {own : String} {idx : Nat} {y : MethodName} {c : ByteArray} {n : Nat} {ret : Option FieldType} (h1 : Cond.methodLink own idx y ∈ gT) (h2 : Cond.static y ∈ gT) (h3 : Cond.initialized own ∈ gT) (h : Cond.code y c n ret ∈ gT) : GoodIn gT (wsS own idx y (cT y c n ret)) :=
  gd_app (List.forall_mem_cons.mpr ⟨h1, List.forall_mem_cons.mpr ⟨h2, List.forall_mem_cons.mpr ⟨h3, fun _ h => absurd h List.not_mem_nil⟩⟩⟩) (gdT h)
theorem gdX {own : String} {idx : Nat} {y : MethodName} {c : ByteArray} {n : Nat} {ret : Option FieldType} (h1 : Cond.methodLink own idx y ∈ gT) (h2 : Cond.static y ∈ gT) (h3 : Cond.initialized y.cls ∈ gT) (h : Cond.code y c n ret ∈ gT) : GoodIn gT (va_wsS own idx y (cT y c n ret)) :=
  gd_app (List.forall_mem_cons.mpr ⟨h1, List.forall_mem_cons.mpr ⟨h2, List.forall_mem_cons.mpr ⟨h3, fun _ h => absurd h List.not_mem_nil⟩⟩⟩) (gdT h)
/-! My layer: a walk's judgement J over an abstract state (cells, locals, stack), and a contract MC with explicit worlds. -/
abbrev Ev : Type := va_G × (ClassId × ClassId × ClassId) × (Nat → Nat)
def eT (E : Ev) : List (ClassId × FieldType) := [(E.2.1.1, .byte), (E.2.1.2.1, .int), (E.2.1.2.2, .long)]
abbrev aB (E : Ev) (a n : Nat) (f : Nat → Int32) : Nat × va_E := (a, .inl (E.2.1.1, n, .inl f))
abbrev aI (E : Ev) (a n : Nat) (f : Nat → Int32) : Nat × va_E := (a, .inl (E.2.1.2.1, n, .inl f))
abbrev aL (E : Ev) (a n : Nat) (f : Nat → Int64) : Nat × va_E := (a, .inl (E.2.1.2.2, n, .inr (.inl f)))
abbrev ob (a ci : Nat) (fs : List Value) : Nat × va_E := (a, .inr (ci, fs))
/-- the static arrays: read, never written -/
def eZ (E : Ev) (A : Nat → Prop) (U : State) (H : Heap) : Prop := ∀ (k : Nat) (q : String × String × String × FieldType × Nat × (Nat → Value)), sT[k]? = some q → va_Z q.1 q.2.1 q.2.2.1 (.ref (E.2.2 k)) A U H ∧ va_T q.2.2.2.1 (E.2.2 k) q.2.2.2.2.1 q.2.2.2.2.2 A U H
theorem eZ.moved {E : Ev} {A : Nat → Prop} {u U : State} {H : Heap} (hvm : u.vm.Alike U.vm) (h : eZ E A u H) : eZ E A U H := fun k q hq => ⟨(h k q hq).1.moved hvm, (h k q hq).2.moved hvm⟩
theorem eZ.kept {E : Ev} {A : Nat → Prop} {U : State} {H H1 : Heap} (h : eZ E A U H) (hq : ∀ a : Nat, a < H.size → ¬ A a → H1[a]? = H[a]?) : eZ E A U H1 := fun k q hk => ⟨(h k q hk).1.kept hq, (h k q hk).2.kept hq⟩
theorem eZ.narrow {E : Ev} {A B : Nat → Prop} {U : State} {H : Heap} (h : eZ E A U H) (hAB : ∀ q, B q → A q) : eZ E B U H := fun k q hk => ⟨(h k q hk).1.narrow hAB, (h k q hk).2.narrow hAB⟩
/-- the links between nest mates -/
def eN (U : State) : Prop := ∀ q ∈ nW, va_Nw (.methodLinkNest q.1 q.2.1 q.2.2.1 q.2.2.2) U
theorem eN.warm {s U : State} (hW : s.WarmedH U.vm) (h : eN s) : eN U := fun q hq => (h q hq).warmM hW
theorem eN.same {s U : State} (hW : s.vm = U.vm) (h : eN s) : eN U := fun q hq => (h q hq).same rfl hW
abbrev Cx : Type := Program × Launch × Env × Room × State × MethodId × Array Value × List Frame × Method × Code × (Nat → Prop) × (State → Prop)
def J (E : Ev) (nL : Nat) (g : Cx) (ws : va_W) (lv : List (Nat × Value)) (cells slots pc : Nat) (st : List Value) : Prop :=
  match g with
  | (p, l, e, R, s, m, args, below, meth, c, A, Q) => ∀ (H : Heap) (locs : List Loc) (ls : Array Slot), va_P E.1 vwCl ws H → va_D A ws → va_S A s.heap H locs → lv_has ls nL lv → W p l e R s m args below meth c H locs cells slots Q (F0 m pc ls st)
def Ok (E : Ev) (nL : Nat) (g : Cx) (l0 : Launch) (cc : ByteArray) (own : String) (Ts : List Cond) (R0 : Room) : Prop :=
  match g with
  | (p, l, _, R, s, m, args, _, meth, c, A, _) => p.tables.exec = Jvm.exec ∧ c.code = cc ∧ c.maxLocals = nL ∧ s.vm.findClass own = some m.cls ∧ (∀ w ∈ Ts, w.before args s = true) ∧ va_K E.1 vwCl (eT E) s ∧ (∀ q : Nat, s.heap.size ≤ q → A q) ∧ eZ E A s s.heap ∧ R = R0 ∧ meth.locks = false ∧ l = l0 ∧ eN s
def QcM (E : Ev) (w0 : va_W) (sz : Nat) (S : Type) (post : S → Prop) (r : S → Option Value) (w1 : S → va_W) : Array Value → State → Outcome → State → Prop := fun _ st oc t =>
  (∃ u : S, oc = .returned (r u) ∧ post u ∧ va_P E.1 vwCl (w1 u) t.heap ∧ va_K E.1 vwCl (eT E) t ∧ va_D (va_A w0 sz) (w1 u)) ∧ va_F (va_A w0 sz) st t
def PcM (E : Ev) (as : List Value) (w0 : va_W) (sz : Nat) : Array Value → State → Prop := va_Pc as (fun U => U.heap.size = sz ∧ va_P E.1 vwCl w0 U.heap ∧ va_K E.1 vwCl (eT E) U ∧ va_D (fun _ => True) w0 ∧ eZ E (va_A w0 sz) U U.heap ∧ eN U)
/-- the contract: from the cells w0 and the arguments, it returns r u, the cells are w1 u, for a u with post u -/
def MC (E : Ev) (l : Launch) (y : MethodName) (Ts : List Cond) (rm : Room) (as : List Value) (w0 : va_W) (S : Type) (post : S → Prop) (r : S → Option Value) (w1 : S → va_W) : Prop :=
  ∀ sz : Nat, Met l y Ts rm (PcM E as w0 sz) (QcM E w0 sz S post r w1) rm.cells rm.slots (va_A w0 sz)
def Rt (E : Ev) (g : Cx) (w0 : va_W) (S : Type) (post : S → Prop) (r : S → Option Value) (w1 : S → va_W) (rm : Room) (ret : Option FieldType) (nm : String) : Prop :=
  match g with
  | (_, _, _, _, s, _, args, below, meth, _, A, Q) => A = va_A w0 s.heap.size ∧ Q = MQ below (QcM E w0 s.heap.size S post r w1) args s rm.cells rm.slots (va_A w0 s.heap.size) ∧ meth.sig.returnType = ret ∧ meth.name = nm
theorem pcM_blind {E : Ev} {as : List Value} {w0 : va_W} {sz : Nat} : FrameBlind (PcM E as w0 sz) := by
  intro a U g mk q
  obtain ⟨q0, q1, qP, qK, qD, qZ, qN⟩ := q
  exact ⟨q0, q1, qP, va_K.moved (u := U) (U := U.calling g mk a) (Vm.Alike.refl U.vm) qK, qD, eZ.moved (u := U) (U := U.calling g mk a) (Vm.Alike.refl U.vm) qZ, eN.same (s := U) (U := U.calling g mk a) rfl qN⟩
theorem MC.of {E : Ev} {l : Launch} {y : MethodName} {Ts Ts' : List Cond} {rm : Room} {as : List Value} {w0 : va_W} {S : Type} {post : S → Prop} {r : S → Option Value} {w1 : S → va_W} {cc : ByteArray} {nL : Nat} {ret : Option FieldType}
    (hy : plainName y.cls = true) (hw : Ts = Cond.code y cc nL ret :: Ts') (hgT : ∀ w ∈ gT, w ∈ Ts) (has : (lg_sl as).length ≤ nL)
    (body : ∀ g : Cx, Ok E nL g l cc y.cls gT rm → Rt E g w0 S post r w1 rm ret y.name → J E nL g w0 (lv_args 0 as) 0 0 0 []) : MC E l y Ts rm as w0 S post r w1 := by
  intro sz
  refine Met.ofW (cc := cc) (maxL := nL) (ret := ret) hy hw ?_
  intro p e s m args below meth c s₁ B hml hv
  obtain ⟨rfl, hsz, hP, hK, hD0, hZ, hN⟩ := hv
  subst hsz
  rw [lg_entry_eq]
  exact body (p, l, e, (headSpec Ts rm).room, s, m, as.toArray, below, meth, c, va_A w0 s.heap.size, MQ below (QcM E w0 s.heap.size S post r w1) as.toArray s rm.cells rm.slots (va_A w0 s.heap.size))
    ⟨B.exec, B.bytes, hml, findClass_of_methodNamed B.named, fun w hw => atoms_spec (ws := Ts) B.pre w (hgT w hw), hK, fun q h => Or.inr h, hZ, rfl, B.notSynchronized, rfl, hN⟩
    ⟨rfl, rfl, B.returns, (name_of_methodNamed B.named B.method).1⟩ s.heap [] _ hP (hD0.self (sz := s.heap.size)) va_S.rf (lv_entry as (n := nL) has)
theorem fm_of_map {ws w : va_W} : ∀ {is : List Nat}, is.map (fun i => ws[i]?) = w.map some → is.filterMap (fun i => ws[i]?) = w := by
  intro is
  induction is generalizing w with
  | nil =>
    intro h
    cases w with
    | nil => rfl
    | cons a w => simp at h
  | cons i is ih =>
    intro h
    cases w with
    | nil => simp at h
    | cons a w =>
      simp only [List.map_cons, List.cons.injEq] at h
      rw [List.filterMap_cons, h.1]
      simp only
      rw [ih h.2]
section JR
variable {E : Ev} {nL : Nat} {g : Cx} {l0 : Launch} {cc : ByteArray} {own : String} {Ts : List Cond} {R0 : Room} {ws : va_W} {lv : List (Nat × Value)} {cells slots pc : Nat} {st : List Value}
theorem j_topi {x y : Int32} (h : x = y) (k : J E nL g ws lv cells slots pc (.int y :: st)) : J E nL g ws lv cells slots pc (.int x :: st) := h ▸ k
theorem j_topl {x y : Int64} (h : x = y) (k : J E nL g ws lv cells slots pc (.long y :: st)) : J E nL g ws lv cells slots pc (.long x :: st) := h ▸ k
theorem j_ws {ws' : va_W} (h : ws = ws') (k : J E nL g ws' lv cells slots pc st) : J E nL g ws lv cells slots pc st := h ▸ k
theorem j_pick (ks : List Nat) {lv' : List (Nat × Value)} (h : lv_pick lv ks = lv') (k : J E nL g ws lv' cells slots pc st) : J E nL g ws lv cells slots pc st := by
  obtain ⟨p, l, e, R, s, m, args, below, meth, c, A, Q⟩ := g
  exact fun H locs ls hP hD hS hl => k H locs ls hP hD hS (lv_sub hl ks h)
/-- the cells in another order, or fewer -/
theorem j_sub (is : List Nat) {ws' : va_W} (h : is.map (fun i => ws[i]?) = ws'.map some) (hn : va_nd is = true) (k : J E nL g ws' lv cells slots pc st) : J E nL g ws lv cells slots pc st := by
  obtain ⟨p, l, e, R, s, m, args, below, meth, c, A, Q⟩ := g
  exact fun H locs ls hP hD hS hl => k H locs ls (hP.sub is (fm_of_map h)) (hD.sub is hn h) hS hl
theorem j_widen {cells' slots' : Nat} (h1 : cells ≤ cells') (h2 : slots ≤ slots') (k : J E nL g ws lv cells' slots' pc st) : J E nL g ws lv cells slots pc st := by
  obtain ⟨p, l, e, R, s, m, args, below, meth, c, A, Q⟩ := g
  exact fun H locs ls hP hD hS hl => W.widen h1 h2 (k H locs ls hP hD hS hl)
theorem j_iconst (hg : Ok E nL g l0 cc own Ts R0) {n : Int} {v : Int32} (hd : decode cc pc = .ok (.iconst n, 1)) (hv : Int32.ofInt n = v) (k : J E nL g ws lv cells slots (pc + 1) (.int v :: st)) : J E nL g ws lv cells slots pc (st) := by
  obtain ⟨p, l, e, R, s, m, args, below, meth, c, A, Q⟩ := g
  exact fun H locs ls hP hD hS hl => lv_iconst hg.1 hg.2.1 hd hv (k H locs ls hP hD hS hl)
theorem j_bipush (hg : Ok E nL g l0 cc own Ts R0) {n : Int} {v : Int32} (hd : decode cc pc = .ok (.bipush n, 2)) (hv : (Int8.ofInt n).toInt32 = v) (k : J E nL g ws lv cells slots (pc + 2) (.int v :: st)) : J E nL g ws lv cells slots pc (st) := by
  obtain ⟨p, l, e, R, s, m, args, below, meth, c, A, Q⟩ := g
  exact fun H locs ls hP hD hS hl => lv_bipush hg.1 hg.2.1 hd hv (k H locs ls hP hD hS hl)
theorem j_sipush (hg : Ok E nL g l0 cc own Ts R0) {n : Int} {v : Int32} (hd : decode cc pc = .ok (.sipush n, 3)) (hv : (Int16.ofInt n).toInt32 = v) (k : J E nL g ws lv cells slots (pc + 3) (.int v :: st)) : J E nL g ws lv cells slots pc (st) := by
  obtain ⟨p, l, e, R, s, m, args, below, meth, c, A, Q⟩ := g
  exact fun H locs ls hP hD hS hl => lv_sipush hg.1 hg.2.1 hd hv (k H locs ls hP hD hS hl)
theorem j_lconst (hg : Ok E nL g l0 cc own Ts R0) {n : Fin 2} {v : Int64} (hd : decode cc pc = .ok (.lconst n, 1)) (hv : Int64.ofNat (n : Nat) = v) (k : J E nL g ws lv cells slots (pc + 1) (.long v :: st)) : J E nL g ws lv cells slots pc (st) := by
  obtain ⟨p, l, e, R, s, m, args, below, meth, c, A, Q⟩ := g
  exact fun H locs ls hP hD hS hl => lv_lconst hg.1 hg.2.1 hd hv (k H locs ls hP hD hS hl)
theorem j_iload_n (hg : Ok E nL g l0 cc own Ts R0) {k : Fin 4} {i : Nat} {x : Int32} (q : Nat) (hd : decode cc pc = .ok (.iload_n k, 1)) (hi : (k : Nat) = i) (hq : lv[q]? = some (i, .int x)) (k : J E nL g ws lv cells slots (pc + 1) (.int x :: st)) : J E nL g ws lv cells slots pc (st) := by
  obtain ⟨p, l, e, R, s, m, args, below, meth, c, A, Q⟩ := g
  exact fun H locs ls hP hD hS hl => lv_iload_n hg.1 hg.2.1 hd hi (lv_at hl q hq) (k H locs ls hP hD hS hl)
theorem j_iload (hg : Ok E nL g l0 cc own Ts R0) {i : Nat} {x : Int32} (q : Nat) (hd : decode cc pc = .ok (.iload i, 2)) (hq : lv[q]? = some (i, .int x)) (k : J E nL g ws lv cells slots (pc + 2) (.int x :: st)) : J E nL g ws lv cells slots pc (st) := by
  obtain ⟨p, l, e, R, s, m, args, below, meth, c, A, Q⟩ := g
  exact fun H locs ls hP hD hS hl => lv_iload hg.1 hg.2.1 hd (lv_at hl q hq) (k H locs ls hP hD hS hl)
theorem j_lload_n (hg : Ok E nL g l0 cc own Ts R0) {k : Fin 4} {i : Nat} {x : Int64} (q : Nat) (hd : decode cc pc = .ok (.lload_n k, 1)) (hi : (k : Nat) = i) (hq : lv[q]? = some (i, .long x)) (k : J E nL g ws lv cells slots (pc + 1) (.long x :: st)) : J E nL g ws lv cells slots pc (st) := by
  obtain ⟨p, l, e, R, s, m, args, below, meth, c, A, Q⟩ := g
  exact fun H locs ls hP hD hS hl => lv_lload_n hg.1 hg.2.1 hd hi (lv_at hl q hq) (k H locs ls hP hD hS hl)
theorem j_lload (hg : Ok E nL g l0 cc own Ts R0) {i : Nat} {x : Int64} (q : Nat) (hd : decode cc pc = .ok (.lload i, 2)) (hq : lv[q]? = some (i, .long x)) (k : J E nL g ws lv cells slots (pc + 2) (.long x :: st)) : J E nL g ws lv cells slots pc (st) := by
  obtain ⟨p, l, e, R, s, m, args, below, meth, c, A, Q⟩ := g
  exact fun H locs ls hP hD hS hl => lv_lload hg.1 hg.2.1 hd (lv_at hl q hq) (k H locs ls hP hD hS hl)
theorem j_aload_n (hg : Ok E nL g l0 cc own Ts R0) {k : Fin 4} {i : Nat} {x : Nat} (q : Nat) (hd : decode cc pc = .ok (.aload_n k, 1)) (hi : (k : Nat) = i) (hq : lv[q]? = some (i, .ref x)) (k : J E nL g ws lv cells slots (pc + 1) (.ref x :: st)) : J E nL g ws lv cells slots pc (st) := by
  obtain ⟨p, l, e, R, s, m, args, below, meth, c, A, Q⟩ := g
  exact fun H locs ls hP hD hS hl => lv_aload_n hg.1 hg.2.1 hd hi (lv_at hl q hq) (k H locs ls hP hD hS hl)
theorem j_aload (hg : Ok E nL g l0 cc own Ts R0) {i : Nat} {x : Nat} (q : Nat) (hd : decode cc pc = .ok (.aload i, 2)) (hq : lv[q]? = some (i, .ref x)) (k : J E nL g ws lv cells slots (pc + 2) (.ref x :: st)) : J E nL g ws lv cells slots pc (st) := by
  obtain ⟨p, l, e, R, s, m, args, below, meth, c, A, Q⟩ := g
  exact fun H locs ls hP hD hS hl => lv_aload hg.1 hg.2.1 hd (lv_at hl q hq) (k H locs ls hP hD hS hl)
theorem j_istore_n (hg : Ok E nL g l0 cc own Ts R0) {k : Fin 4} {i : Nat} {x : Int32} {lv' : List (Nat × Value)} (hd : decode cc pc = .ok (.istore_n k, 1)) (hi : (k : Nat) = i) (hn : i < nL) (hq : (i, Value.int x) :: lv.filter (fun q => !(q.1 == i) && !(q.1 + 1 == i && q.2.category == 2)) = lv') (k : J E nL g ws lv' cells slots (pc + 1) (st)) : J E nL g ws lv cells slots pc (.int x :: st) := by
  obtain ⟨p, l, e, R, s, m, args, below, meth, c, A, Q⟩ := g
  exact fun H locs ls hP hD hS hl => lv_istore_n hg.1 hg.2.1 hd hi hl hn hq (fun ls' hl' => k H locs ls' hP hD hS hl')
theorem j_istore (hg : Ok E nL g l0 cc own Ts R0) {i : Nat} {x : Int32} {lv' : List (Nat × Value)} (hd : decode cc pc = .ok (.istore i, 2)) (hn : i < nL) (hq : (i, Value.int x) :: lv.filter (fun q => !(q.1 == i) && !(q.1 + 1 == i && q.2.category == 2)) = lv') (k : J E nL g ws lv' cells slots (pc + 2) (st)) : J E nL g ws lv cells slots pc (.int x :: st) := by
  obtain ⟨p, l, e, R, s, m, args, below, meth, c, A, Q⟩ := g
  exact fun H locs ls hP hD hS hl => lv_istore hg.1 hg.2.1 hd hl hn hq (fun ls' hl' => k H locs ls' hP hD hS hl')
theorem j_lstore_n (hg : Ok E nL g l0 cc own Ts R0) {k : Fin 4} {i : Nat} {x : Int64} {lv' : List (Nat × Value)} (hd : decode cc pc = .ok (.lstore_n k, 1)) (hi : (k : Nat) = i) (hn : i + 1 < nL) (hq : (i, Value.long x) :: lv.filter (fun q => !(q.1 == i) && (!(q.1 == i + 1) && !(q.1 + 1 == i && q.2.category == 2))) = lv') (k : J E nL g ws lv' cells slots (pc + 1) (st)) : J E nL g ws lv cells slots pc (.long x :: st) := by
  obtain ⟨p, l, e, R, s, m, args, below, meth, c, A, Q⟩ := g
  exact fun H locs ls hP hD hS hl => lv_lstore_n hg.1 hg.2.1 hd hi hl hn hq (fun ls' hl' => k H locs ls' hP hD hS hl')
theorem j_lstore (hg : Ok E nL g l0 cc own Ts R0) {i : Nat} {x : Int64} {lv' : List (Nat × Value)} (hd : decode cc pc = .ok (.lstore i, 2)) (hn : i + 1 < nL) (hq : (i, Value.long x) :: lv.filter (fun q => !(q.1 == i) && (!(q.1 == i + 1) && !(q.1 + 1 == i && q.2.category == 2))) = lv') (k : J E nL g ws lv' cells slots (pc + 2) (st)) : J E nL g ws lv cells slots pc (.long x :: st) := by
  obtain ⟨p, l, e, R, s, m, args, below, meth, c, A, Q⟩ := g
  exact fun H locs ls hP hD hS hl => lv_lstore hg.1 hg.2.1 hd hl hn hq (fun ls' hl' => k H locs ls' hP hD hS hl')
theorem j_astore_n (hg : Ok E nL g l0 cc own Ts R0) {k : Fin 4} {i : Nat} {x : Nat} {lv' : List (Nat × Value)} (hd : decode cc pc = .ok (.astore_n k, 1)) (hi : (k : Nat) = i) (hn : i < nL) (hq : (i, Value.ref x) :: lv.filter (fun q => !(q.1 == i) && !(q.1 + 1 == i && q.2.category == 2)) = lv') (k : J E nL g ws lv' cells slots (pc + 1) (st)) : J E nL g ws lv cells slots pc (.ref x :: st) := by
  obtain ⟨p, l, e, R, s, m, args, below, meth, c, A, Q⟩ := g
  exact fun H locs ls hP hD hS hl => lv_astore_n hg.1 hg.2.1 hd hi hl hn hq (fun ls' hl' => k H locs ls' hP hD hS hl')
theorem j_astore (hg : Ok E nL g l0 cc own Ts R0) {i : Nat} {x : Nat} {lv' : List (Nat × Value)} (hd : decode cc pc = .ok (.astore i, 2)) (hn : i < nL) (hq : (i, Value.ref x) :: lv.filter (fun q => !(q.1 == i) && !(q.1 + 1 == i && q.2.category == 2)) = lv') (k : J E nL g ws lv' cells slots (pc + 2) (st)) : J E nL g ws lv cells slots pc (.ref x :: st) := by
  obtain ⟨p, l, e, R, s, m, args, below, meth, c, A, Q⟩ := g
  exact fun H locs ls hP hD hS hl => lv_astore hg.1 hg.2.1 hd hl hn hq (fun ls' hl' => k H locs ls' hP hD hS hl')
theorem j_iinc (hg : Ok E nL g l0 cc own Ts R0) {i kq : Nat} {n : Int} {x v : Int32} {lv' : List (Nat × Value)} (hd : decode cc pc = .ok (.iinc i n, 3)) (hk : lv[kq]? = some (i, .int x)) (hv : x + Int32.ofInt n = v) (hn : i < nL) (hq : (i, Value.int v) :: lv.filter (fun q => !(q.1 == i) && !(q.1 + 1 == i && q.2.category == 2)) = lv') (k : J E nL g ws lv' cells slots (pc + 3) (st)) : J E nL g ws lv cells slots pc (st) := by
  obtain ⟨p, l, e, R, s, m, args, below, meth, c, A, Q⟩ := g
  exact fun H locs ls hP hD hS hl => lv_iinc hg.1 hg.2.1 hd hl hk hv hn hq (fun ls' hl' => k H locs ls' hP hD hS hl')
theorem j_iadd (hg : Ok E nL g l0 cc own Ts R0) {x y v : Int32} (hd : decode cc pc = .ok (.iadd, 1)) (hv : x + y = v) (k : J E nL g ws lv cells slots (pc + 1) (.int v :: st)) : J E nL g ws lv cells slots pc (.int y :: .int x :: st) := by
  obtain ⟨p, l, e, R, s, m, args, below, meth, c, A, Q⟩ := g
  subst hv
  exact fun H locs ls hP hD hS hl => lv_iadd hg.1 hg.2.1 hd (k H locs ls hP hD hS hl)
theorem j_isub (hg : Ok E nL g l0 cc own Ts R0) {x y v : Int32} (hd : decode cc pc = .ok (.isub, 1)) (hv : x - y = v) (k : J E nL g ws lv cells slots (pc + 1) (.int v :: st)) : J E nL g ws lv cells slots pc (.int y :: .int x :: st) := by
  obtain ⟨p, l, e, R, s, m, args, below, meth, c, A, Q⟩ := g
  subst hv
  exact fun H locs ls hP hD hS hl => lv_isub hg.1 hg.2.1 hd (k H locs ls hP hD hS hl)
theorem j_imul (hg : Ok E nL g l0 cc own Ts R0) {x y v : Int32} (hd : decode cc pc = .ok (.imul, 1)) (hv : x * y = v) (k : J E nL g ws lv cells slots (pc + 1) (.int v :: st)) : J E nL g ws lv cells slots pc (.int y :: .int x :: st) := by
  obtain ⟨p, l, e, R, s, m, args, below, meth, c, A, Q⟩ := g
  subst hv
  exact fun H locs ls hP hD hS hl => lv_imul hg.1 hg.2.1 hd (k H locs ls hP hD hS hl)
theorem j_iand (hg : Ok E nL g l0 cc own Ts R0) {x y v : Int32} (hd : decode cc pc = .ok (.iand, 1)) (hv : x &&& y = v) (k : J E nL g ws lv cells slots (pc + 1) (.int v :: st)) : J E nL g ws lv cells slots pc (.int y :: .int x :: st) := by
  obtain ⟨p, l, e, R, s, m, args, below, meth, c, A, Q⟩ := g
  subst hv
  exact fun H locs ls hP hD hS hl => lv_iand hg.1 hg.2.1 hd (k H locs ls hP hD hS hl)
theorem j_ior (hg : Ok E nL g l0 cc own Ts R0) {x y v : Int32} (hd : decode cc pc = .ok (.ior, 1)) (hv : x ||| y = v) (k : J E nL g ws lv cells slots (pc + 1) (.int v :: st)) : J E nL g ws lv cells slots pc (.int y :: .int x :: st) := by
  obtain ⟨p, l, e, R, s, m, args, below, meth, c, A, Q⟩ := g
  subst hv
  exact fun H locs ls hP hD hS hl => lv_ior hg.1 hg.2.1 hd (k H locs ls hP hD hS hl)
theorem j_ixor (hg : Ok E nL g l0 cc own Ts R0) {x y v : Int32} (hd : decode cc pc = .ok (.ixor, 1)) (hv : x ^^^ y = v) (k : J E nL g ws lv cells slots (pc + 1) (.int v :: st)) : J E nL g ws lv cells slots pc (.int y :: .int x :: st) := by
  obtain ⟨p, l, e, R, s, m, args, below, meth, c, A, Q⟩ := g
  subst hv
  exact fun H locs ls hP hD hS hl => lv_ixor hg.1 hg.2.1 hd (k H locs ls hP hD hS hl)
theorem j_ishl (hg : Ok E nL g l0 cc own Ts R0) {x y v : Int32} (hd : decode cc pc = .ok (.ishl, 1)) (hv : x <<< (y &&& 31) = v) (k : J E nL g ws lv cells slots (pc + 1) (.int v :: st)) : J E nL g ws lv cells slots pc (.int y :: .int x :: st) := by
  obtain ⟨p, l, e, R, s, m, args, below, meth, c, A, Q⟩ := g
  subst hv
  exact fun H locs ls hP hD hS hl => lv_ishl hg.1 hg.2.1 hd (k H locs ls hP hD hS hl)
theorem j_ishr (hg : Ok E nL g l0 cc own Ts R0) {x y v : Int32} (hd : decode cc pc = .ok (.ishr, 1)) (hv : x >>> (y &&& 31) = v) (k : J E nL g ws lv cells slots (pc + 1) (.int v :: st)) : J E nL g ws lv cells slots pc (.int y :: .int x :: st) := by
  obtain ⟨p, l, e, R, s, m, args, below, meth, c, A, Q⟩ := g
  subst hv
  exact fun H locs ls hP hD hS hl => lv_ishr hg.1 hg.2.1 hd (k H locs ls hP hD hS hl)
theorem j_irem (hg : Ok E nL g l0 cc own Ts R0) {x y v : Int32} (hd : decode cc pc = .ok (.irem, 1)) (hne : ¬ y = 0) (hv : x - x / y * y = v) (k : J E nL g ws lv cells slots (pc + 1) (.int v :: st)) : J E nL g ws lv cells slots pc (.int y :: .int x :: st) := by
  obtain ⟨p, l, e, R, s, m, args, below, meth, c, A, Q⟩ := g
  subst hv
  exact fun H locs ls hP hD hS hl => lv_irem hg.1 hg.2.1 hd hne (k H locs ls hP hD hS hl)
theorem j_idiv (hg : Ok E nL g l0 cc own Ts R0) {x y v : Int32} (hd : decode cc pc = .ok (.idiv, 1)) (hne : ¬ y = 0) (hv : x / y = v) (k : J E nL g ws lv cells slots (pc + 1) (.int v :: st)) : J E nL g ws lv cells slots pc (.int y :: .int x :: st) := by
  obtain ⟨p, l, e, R, s, m, args, below, meth, c, A, Q⟩ := g
  subst hv
  exact fun H locs ls hP hD hS hl => lv_idiv hg.1 hg.2.1 hd hne (k H locs ls hP hD hS hl)
theorem j_ladd (hg : Ok E nL g l0 cc own Ts R0) {x y v : Int64} (hd : decode cc pc = .ok (.ladd, 1)) (hv : x + y = v) (k : J E nL g ws lv cells slots (pc + 1) (.long v :: st)) : J E nL g ws lv cells slots pc (.long y :: .long x :: st) := by
  obtain ⟨p, l, e, R, s, m, args, below, meth, c, A, Q⟩ := g
  subst hv
  exact fun H locs ls hP hD hS hl => lv_ladd hg.1 hg.2.1 hd (k H locs ls hP hD hS hl)
theorem j_lsub (hg : Ok E nL g l0 cc own Ts R0) {x y v : Int64} (hd : decode cc pc = .ok (.lsub, 1)) (hv : x - y = v) (k : J E nL g ws lv cells slots (pc + 1) (.long v :: st)) : J E nL g ws lv cells slots pc (.long y :: .long x :: st) := by
  obtain ⟨p, l, e, R, s, m, args, below, meth, c, A, Q⟩ := g
  subst hv
  exact fun H locs ls hP hD hS hl => lv_lsub hg.1 hg.2.1 hd (k H locs ls hP hD hS hl)
theorem j_lmul (hg : Ok E nL g l0 cc own Ts R0) {x y v : Int64} (hd : decode cc pc = .ok (.lmul, 1)) (hv : x * y = v) (k : J E nL g ws lv cells slots (pc + 1) (.long v :: st)) : J E nL g ws lv cells slots pc (.long y :: .long x :: st) := by
  obtain ⟨p, l, e, R, s, m, args, below, meth, c, A, Q⟩ := g
  subst hv
  exact fun H locs ls hP hD hS hl => lv_lmul hg.1 hg.2.1 hd (k H locs ls hP hD hS hl)
theorem j_land (hg : Ok E nL g l0 cc own Ts R0) {x y v : Int64} (hd : decode cc pc = .ok (.land, 1)) (hv : x &&& y = v) (k : J E nL g ws lv cells slots (pc + 1) (.long v :: st)) : J E nL g ws lv cells slots pc (.long y :: .long x :: st) := by
  obtain ⟨p, l, e, R, s, m, args, below, meth, c, A, Q⟩ := g
  subst hv
  exact fun H locs ls hP hD hS hl => lv_land hg.1 hg.2.1 hd (k H locs ls hP hD hS hl)
theorem j_lor (hg : Ok E nL g l0 cc own Ts R0) {x y v : Int64} (hd : decode cc pc = .ok (.lor, 1)) (hv : x ||| y = v) (k : J E nL g ws lv cells slots (pc + 1) (.long v :: st)) : J E nL g ws lv cells slots pc (.long y :: .long x :: st) := by
  obtain ⟨p, l, e, R, s, m, args, below, meth, c, A, Q⟩ := g
  subst hv
  exact fun H locs ls hP hD hS hl => lv_lor hg.1 hg.2.1 hd (k H locs ls hP hD hS hl)
theorem j_lxor (hg : Ok E nL g l0 cc own Ts R0) {x y v : Int64} (hd : decode cc pc = .ok (.lxor, 1)) (hv : x ^^^ y = v) (k : J E nL g ws lv cells slots (pc + 1) (.long v :: st)) : J E nL g ws lv cells slots pc (.long y :: .long x :: st) := by
  obtain ⟨p, l, e, R, s, m, args, below, meth, c, A, Q⟩ := g
  subst hv
  exact fun H locs ls hP hD hS hl => lv_lxor hg.1 hg.2.1 hd (k H locs ls hP hD hS hl)
theorem j_lrem (hg : Ok E nL g l0 cc own Ts R0) {x y v : Int64} (hd : decode cc pc = .ok (.lrem, 1)) (hne : ¬ y = 0) (hv : x - x / y * y = v) (k : J E nL g ws lv cells slots (pc + 1) (.long v :: st)) : J E nL g ws lv cells slots pc (.long y :: .long x :: st) := by
  obtain ⟨p, l, e, R, s, m, args, below, meth, c, A, Q⟩ := g
  subst hv
  exact fun H locs ls hP hD hS hl => lv_lrem hg.1 hg.2.1 hd hne (k H locs ls hP hD hS hl)
theorem j_ldiv (hg : Ok E nL g l0 cc own Ts R0) {x y v : Int64} (hd : decode cc pc = .ok (.ldiv, 1)) (hne : ¬ y = 0) (hv : x / y = v) (k : J E nL g ws lv cells slots (pc + 1) (.long v :: st)) : J E nL g ws lv cells slots pc (.long y :: .long x :: st) := by
  obtain ⟨p, l, e, R, s, m, args, below, meth, c, A, Q⟩ := g
  subst hv
  exact fun H locs ls hP hD hS hl => lv_ldiv hg.1 hg.2.1 hd hne (k H locs ls hP hD hS hl)
theorem j_ineg (hg : Ok E nL g l0 cc own Ts R0) {x v : Int32} (hd : decode cc pc = .ok (.ineg, 1)) (hv : -x = v) (k : J E nL g ws lv cells slots (pc + 1) (.int v :: st)) : J E nL g ws lv cells slots pc (.int x :: st) := by
  obtain ⟨p, l, e, R, s, m, args, below, meth, c, A, Q⟩ := g
  subst hv
  exact fun H locs ls hP hD hS hl => lv_ineg hg.1 hg.2.1 hd (k H locs ls hP hD hS hl)
theorem j_lcmp (hg : Ok E nL g l0 cc own Ts R0) {x y : Int64} {v : Int32} (hd : decode cc pc = .ok (.lcmp, 1)) (hv : lg_cmp x y = v) (k : J E nL g ws lv cells slots (pc + 1) (.int v :: st)) : J E nL g ws lv cells slots pc (.long y :: .long x :: st) := by
  obtain ⟨p, l, e, R, s, m, args, below, meth, c, A, Q⟩ := g
  subst hv
  exact fun H locs ls hP hD hS hl => W.lcmp hg.1 hg.2.1 hd (k H locs ls hP hD hS hl)
theorem j_i2l (hg : Ok E nL g l0 cc own Ts R0) {x : Int32} {v : Int64} (hd : decode cc pc = .ok (.i2l, 1)) (hv : x.toInt64 = v) (k : J E nL g ws lv cells slots (pc + 1) (.long v :: st)) : J E nL g ws lv cells slots pc (.int x :: st) := by
  obtain ⟨p, l, e, R, s, m, args, below, meth, c, A, Q⟩ := g
  exact fun H locs ls hP hD hS hl => lv_i2l hg.1 hg.2.1 hd hv (k H locs ls hP hD hS hl)
theorem j_l2i (hg : Ok E nL g l0 cc own Ts R0) {x : Int64} {v : Int32} (hd : decode cc pc = .ok (.l2i, 1)) (hv : x.toInt32 = v) (k : J E nL g ws lv cells slots (pc + 1) (.int v :: st)) : J E nL g ws lv cells slots pc (.long x :: st) := by
  obtain ⟨p, l, e, R, s, m, args, below, meth, c, A, Q⟩ := g
  exact fun H locs ls hP hD hS hl => lv_l2i hg.1 hg.2.1 hd hv (k H locs ls hP hD hS hl)
theorem j_i2b (hg : Ok E nL g l0 cc own Ts R0) {x : Int32} {v : Int32} (hd : decode cc pc = .ok (.i2b, 1)) (hv : x.toInt8.toInt32 = v) (k : J E nL g ws lv cells slots (pc + 1) (.int v :: st)) : J E nL g ws lv cells slots pc (.int x :: st) := by
  obtain ⟨p, l, e, R, s, m, args, below, meth, c, A, Q⟩ := g
  exact fun H locs ls hP hD hS hl => lv_i2b hg.1 hg.2.1 hd hv (k H locs ls hP hD hS hl)
theorem j_i2s (hg : Ok E nL g l0 cc own Ts R0) {x : Int32} {v : Int32} (hd : decode cc pc = .ok (.i2s, 1)) (hv : x.toInt16.toInt32 = v) (k : J E nL g ws lv cells slots (pc + 1) (.int v :: st)) : J E nL g ws lv cells slots pc (.int x :: st) := by
  obtain ⟨p, l, e, R, s, m, args, below, meth, c, A, Q⟩ := g
  exact fun H locs ls hP hD hS hl => lv_i2s hg.1 hg.2.1 hd hv (k H locs ls hP hD hS hl)
theorem j_i2c (hg : Ok E nL g l0 cc own Ts R0) {x : Int32} {v : Int32} (hd : decode cc pc = .ok (.i2c, 1)) (hv : (x.toUInt32 % 65536).toInt32 = v) (k : J E nL g ws lv cells slots (pc + 1) (.int v :: st)) : J E nL g ws lv cells slots pc (.int x :: st) := by
  obtain ⟨p, l, e, R, s, m, args, below, meth, c, A, Q⟩ := g
  exact fun H locs ls hP hD hS hl => lv_i2c hg.1 hg.2.1 hd hv (k H locs ls hP hD hS hl)
theorem j_iushr (hg : Ok E nL g l0 cc own Ts R0) {x y v : Int32} (hd : decode cc pc = .ok (.iushr, 1)) (hv : (x.toUInt32 >>> (y.toUInt32 &&& Int32.toUInt32 31)).toInt32 = v) (k : J E nL g ws lv cells slots (pc + 1) (.int v :: st)) : J E nL g ws lv cells slots pc (.int y :: .int x :: st) := by
  obtain ⟨p, l, e, R, s, m, args, below, meth, c, A, Q⟩ := g
  exact fun H locs ls hP hD hS hl => lv_iushr hg.1 hg.2.1 hd hv (k H locs ls hP hD hS hl)
theorem j_lushr (hg : Ok E nL g l0 cc own Ts R0) {x v : Int64} {y : Int32} (hd : decode cc pc = .ok (.lushr, 1)) (hv : (x.toUInt64 >>> (y.toInt64.toUInt64 &&& Int64.toUInt64 63)).toInt64 = v) (k : J E nL g ws lv cells slots (pc + 1) (.long v :: st)) : J E nL g ws lv cells slots pc (.int y :: .long x :: st) := by
  obtain ⟨p, l, e, R, s, m, args, below, meth, c, A, Q⟩ := g
  exact fun H locs ls hP hD hS hl => lv_lushr hg.1 hg.2.1 hd hv (k H locs ls hP hD hS hl)
theorem j_lshl (hg : Ok E nL g l0 cc own Ts R0) {x v : Int64} {y : Int32} (hd : decode cc pc = .ok (.lshl, 1)) (hv : x <<< (y.toInt64 &&& 63) = v) (k : J E nL g ws lv cells slots (pc + 1) (.long v :: st)) : J E nL g ws lv cells slots pc (.int y :: .long x :: st) := by
  obtain ⟨p, l, e, R, s, m, args, below, meth, c, A, Q⟩ := g
  exact fun H locs ls hP hD hS hl => lv_lshl hg.1 hg.2.1 hd hv (k H locs ls hP hD hS hl)
theorem j_lshr (hg : Ok E nL g l0 cc own Ts R0) {x v : Int64} {y : Int32} (hd : decode cc pc = .ok (.lshr, 1)) (hv : x >>> (y.toInt64 &&& 63) = v) (k : J E nL g ws lv cells slots (pc + 1) (.long v :: st)) : J E nL g ws lv cells slots pc (.int y :: .long x :: st) := by
  obtain ⟨p, l, e, R, s, m, args, below, meth, c, A, Q⟩ := g
  exact fun H locs ls hP hD hS hl => lv_lshr hg.1 hg.2.1 hd hv (k H locs ls hP hD hS hl)
theorem j_dup (hg : Ok E nL g l0 cc own Ts R0) {va : Value} (hd : decode cc pc = .ok (.dup, 1)) (hva : va.category = 1) (k : J E nL g ws lv cells slots (pc + 1) (va :: va :: st)) : J E nL g ws lv cells slots pc (va :: st) := by
  obtain ⟨p, l, e, R, s, m, args, below, meth, c, A, Q⟩ := g
  exact fun H locs ls hP hD hS hl => lv_dup hg.1 hg.2.1 hd hva (k H locs ls hP hD hS hl)
theorem j_pop (hg : Ok E nL g l0 cc own Ts R0) {va : Value} (hd : decode cc pc = .ok (.pop, 1)) (hva : va.category = 1) (k : J E nL g ws lv cells slots (pc + 1) (st)) : J E nL g ws lv cells slots pc (va :: st) := by
  obtain ⟨p, l, e, R, s, m, args, below, meth, c, A, Q⟩ := g
  exact fun H locs ls hP hD hS hl => lv_pop hg.1 hg.2.1 hd hva (k H locs ls hP hD hS hl)
theorem j_dup_x1 (hg : Ok E nL g l0 cc own Ts R0) {va vb : Value} (hd : decode cc pc = .ok (.dup_x1, 1)) (hva : va.category = 1) (hvb : vb.category = 1) (k : J E nL g ws lv cells slots (pc + 1) (va :: vb :: va :: st)) : J E nL g ws lv cells slots pc (va :: vb :: st) := by
  obtain ⟨p, l, e, R, s, m, args, below, meth, c, A, Q⟩ := g
  exact fun H locs ls hP hD hS hl => lv_dup_x1 hg.1 hg.2.1 hd hva hvb (k H locs ls hP hD hS hl)
theorem j_dup_x2 (hg : Ok E nL g l0 cc own Ts R0) {va vb vd : Value} (hd : decode cc pc = .ok (.dup_x2, 1)) (hva : va.category = 1) (hvb : vb.category = 1) (hvd : vd.category = 1) (k : J E nL g ws lv cells slots (pc + 1) (va :: vb :: vd :: va :: st)) : J E nL g ws lv cells slots pc (va :: vb :: vd :: st) := by
  obtain ⟨p, l, e, R, s, m, args, below, meth, c, A, Q⟩ := g
  exact fun H locs ls hP hD hS hl => lv_dup_x2 hg.1 hg.2.1 hd hva hvb hvd (k H locs ls hP hD hS hl)
theorem j_dup2_11 (hg : Ok E nL g l0 cc own Ts R0) {va vb : Value} (hd : decode cc pc = .ok (.dup2, 1)) (hva : va.category = 1) (hvb : vb.category = 1) (k : J E nL g ws lv cells slots (pc + 1) (va :: vb :: va :: vb :: st)) : J E nL g ws lv cells slots pc (va :: vb :: st) := by
  obtain ⟨p, l, e, R, s, m, args, below, meth, c, A, Q⟩ := g
  exact fun H locs ls hP hD hS hl => lv_dup2_11 hg.1 hg.2.1 hd hva hvb (k H locs ls hP hD hS hl)
theorem j_dup2_2 (hg : Ok E nL g l0 cc own Ts R0) {va : Value} (hd : decode cc pc = .ok (.dup2, 1)) (hva : va.category = 2) (k : J E nL g ws lv cells slots (pc + 1) (va :: va :: st)) : J E nL g ws lv cells slots pc (va :: st) := by
  obtain ⟨p, l, e, R, s, m, args, below, meth, c, A, Q⟩ := g
  exact fun H locs ls hP hD hS hl => lv_dup2_2 hg.1 hg.2.1 hd hva (k H locs ls hP hD hS hl)
theorem j_pop2_2 (hg : Ok E nL g l0 cc own Ts R0) {va : Value} (hd : decode cc pc = .ok (.pop2, 1)) (hva : va.category = 2) (k : J E nL g ws lv cells slots (pc + 1) (st)) : J E nL g ws lv cells slots pc (va :: st) := by
  obtain ⟨p, l, e, R, s, m, args, below, meth, c, A, Q⟩ := g
  exact fun H locs ls hP hD hS hl => lv_pop2_2 hg.1 hg.2.1 hd hva (k H locs ls hP hD hS hl)
theorem j_dup2_x1_2 (hg : Ok E nL g l0 cc own Ts R0) {va vb : Value} (hd : decode cc pc = .ok (.dup2_x1, 1)) (hva : va.category = 2) (hvb : vb.category = 1) (k : J E nL g ws lv cells slots (pc + 1) (va :: vb :: va :: st)) : J E nL g ws lv cells slots pc (va :: vb :: st) := by
  obtain ⟨p, l, e, R, s, m, args, below, meth, c, A, Q⟩ := g
  exact fun H locs ls hP hD hS hl => lv_dup2_x1_2 hg.1 hg.2.1 hd hva hvb (k H locs ls hP hD hS hl)
theorem j_dup2_x2_2 (hg : Ok E nL g l0 cc own Ts R0) {va vb vd : Value} (hd : decode cc pc = .ok (.dup2_x2, 1)) (hva : va.category = 2) (hvb : vb.category = 1) (hvd : vd.category = 1) (k : J E nL g ws lv cells slots (pc + 1) (va :: vb :: vd :: va :: st)) : J E nL g ws lv cells slots pc (va :: vb :: vd :: st) := by
  obtain ⟨p, l, e, R, s, m, args, below, meth, c, A, Q⟩ := g
  exact fun H locs ls hP hD hS hl => lv_dup2_x2_2 hg.1 hg.2.1 hd hva hvb hvd (k H locs ls hP hD hS hl)
theorem j_if_eq (hg : Ok E nL g l0 cc own Ts R0) {x : Int32} {off : Int} {tgt : Nat} (hd : decode cc pc = .ok (.ifCond .eq off, 3)) (ht : (pc : Int) + off = (tgt : Int)) (kt : x = 0 → J E nL g ws lv cells slots tgt (st)) (kf : ¬ x = 0 → J E nL g ws lv cells slots (pc + 3) (st)) : J E nL g ws lv cells slots pc (.int x :: st) := by
  obtain ⟨p, l, e, R, s, m, args, below, meth, c, A, Q⟩ := g
  exact fun H locs ls hP hD hS hl => lv_if_eq hg.1 hg.2.1 hd ht (fun h => kt h H locs ls hP hD hS hl) (fun h => kf h H locs ls hP hD hS hl)
theorem j_if_ne (hg : Ok E nL g l0 cc own Ts R0) {x : Int32} {off : Int} {tgt : Nat} (hd : decode cc pc = .ok (.ifCond .ne off, 3)) (ht : (pc : Int) + off = (tgt : Int)) (kt : ¬ x = 0 → J E nL g ws lv cells slots tgt (st)) (kf : x = 0 → J E nL g ws lv cells slots (pc + 3) (st)) : J E nL g ws lv cells slots pc (.int x :: st) := by
  obtain ⟨p, l, e, R, s, m, args, below, meth, c, A, Q⟩ := g
  exact fun H locs ls hP hD hS hl => lv_if_ne hg.1 hg.2.1 hd ht (fun h => kt h H locs ls hP hD hS hl) (fun h => kf h H locs ls hP hD hS hl)
theorem j_if_lt (hg : Ok E nL g l0 cc own Ts R0) {x : Int32} {off : Int} {tgt : Nat} (hd : decode cc pc = .ok (.ifCond .lt off, 3)) (ht : (pc : Int) + off = (tgt : Int)) (kt : x < 0 → J E nL g ws lv cells slots tgt (st)) (kf : ¬ x < 0 → J E nL g ws lv cells slots (pc + 3) (st)) : J E nL g ws lv cells slots pc (.int x :: st) := by
  obtain ⟨p, l, e, R, s, m, args, below, meth, c, A, Q⟩ := g
  exact fun H locs ls hP hD hS hl => lv_if_lt hg.1 hg.2.1 hd ht (fun h => kt h H locs ls hP hD hS hl) (fun h => kf h H locs ls hP hD hS hl)
theorem j_if_ge (hg : Ok E nL g l0 cc own Ts R0) {x : Int32} {off : Int} {tgt : Nat} (hd : decode cc pc = .ok (.ifCond .ge off, 3)) (ht : (pc : Int) + off = (tgt : Int)) (kt : 0 ≤ x → J E nL g ws lv cells slots tgt (st)) (kf : ¬ 0 ≤ x → J E nL g ws lv cells slots (pc + 3) (st)) : J E nL g ws lv cells slots pc (.int x :: st) := by
  obtain ⟨p, l, e, R, s, m, args, below, meth, c, A, Q⟩ := g
  exact fun H locs ls hP hD hS hl => lv_if_ge hg.1 hg.2.1 hd ht (fun h => kt h H locs ls hP hD hS hl) (fun h => kf h H locs ls hP hD hS hl)
theorem j_if_gt (hg : Ok E nL g l0 cc own Ts R0) {x : Int32} {off : Int} {tgt : Nat} (hd : decode cc pc = .ok (.ifCond .gt off, 3)) (ht : (pc : Int) + off = (tgt : Int)) (kt : 0 < x → J E nL g ws lv cells slots tgt (st)) (kf : ¬ 0 < x → J E nL g ws lv cells slots (pc + 3) (st)) : J E nL g ws lv cells slots pc (.int x :: st) := by
  obtain ⟨p, l, e, R, s, m, args, below, meth, c, A, Q⟩ := g
  exact fun H locs ls hP hD hS hl => lv_if_gt hg.1 hg.2.1 hd ht (fun h => kt h H locs ls hP hD hS hl) (fun h => kf h H locs ls hP hD hS hl)
theorem j_if_le (hg : Ok E nL g l0 cc own Ts R0) {x : Int32} {off : Int} {tgt : Nat} (hd : decode cc pc = .ok (.ifCond .le off, 3)) (ht : (pc : Int) + off = (tgt : Int)) (kt : x ≤ 0 → J E nL g ws lv cells slots tgt (st)) (kf : ¬ x ≤ 0 → J E nL g ws lv cells slots (pc + 3) (st)) : J E nL g ws lv cells slots pc (.int x :: st) := by
  obtain ⟨p, l, e, R, s, m, args, below, meth, c, A, Q⟩ := g
  exact fun H locs ls hP hD hS hl => lv_if_le hg.1 hg.2.1 hd ht (fun h => kt h H locs ls hP hD hS hl) (fun h => kf h H locs ls hP hD hS hl)
theorem j_icmp_eq (hg : Ok E nL g l0 cc own Ts R0) {x y : Int32} {off : Int} {tgt : Nat} (hd : decode cc pc = .ok (.if_icmp .eq off, 3)) (ht : (pc : Int) + off = (tgt : Int)) (kt : x = y → J E nL g ws lv cells slots tgt (st)) (kf : ¬ x = y → J E nL g ws lv cells slots (pc + 3) (st)) : J E nL g ws lv cells slots pc (.int y :: .int x :: st) := by
  obtain ⟨p, l, e, R, s, m, args, below, meth, c, A, Q⟩ := g
  exact fun H locs ls hP hD hS hl => lv_icmp_eq hg.1 hg.2.1 hd ht (fun h => kt h H locs ls hP hD hS hl) (fun h => kf h H locs ls hP hD hS hl)
theorem j_icmp_ne (hg : Ok E nL g l0 cc own Ts R0) {x y : Int32} {off : Int} {tgt : Nat} (hd : decode cc pc = .ok (.if_icmp .ne off, 3)) (ht : (pc : Int) + off = (tgt : Int)) (kt : ¬ x = y → J E nL g ws lv cells slots tgt (st)) (kf : x = y → J E nL g ws lv cells slots (pc + 3) (st)) : J E nL g ws lv cells slots pc (.int y :: .int x :: st) := by
  obtain ⟨p, l, e, R, s, m, args, below, meth, c, A, Q⟩ := g
  exact fun H locs ls hP hD hS hl => lv_icmp_ne hg.1 hg.2.1 hd ht (fun h => kt h H locs ls hP hD hS hl) (fun h => kf h H locs ls hP hD hS hl)
theorem j_icmp_lt (hg : Ok E nL g l0 cc own Ts R0) {x y : Int32} {off : Int} {tgt : Nat} (hd : decode cc pc = .ok (.if_icmp .lt off, 3)) (ht : (pc : Int) + off = (tgt : Int)) (kt : x < y → J E nL g ws lv cells slots tgt (st)) (kf : ¬ x < y → J E nL g ws lv cells slots (pc + 3) (st)) : J E nL g ws lv cells slots pc (.int y :: .int x :: st) := by
  obtain ⟨p, l, e, R, s, m, args, below, meth, c, A, Q⟩ := g
  exact fun H locs ls hP hD hS hl => lv_icmp_lt hg.1 hg.2.1 hd ht (fun h => kt h H locs ls hP hD hS hl) (fun h => kf h H locs ls hP hD hS hl)
theorem j_icmp_ge (hg : Ok E nL g l0 cc own Ts R0) {x y : Int32} {off : Int} {tgt : Nat} (hd : decode cc pc = .ok (.if_icmp .ge off, 3)) (ht : (pc : Int) + off = (tgt : Int)) (kt : y ≤ x → J E nL g ws lv cells slots tgt (st)) (kf : ¬ y ≤ x → J E nL g ws lv cells slots (pc + 3) (st)) : J E nL g ws lv cells slots pc (.int y :: .int x :: st) := by
  obtain ⟨p, l, e, R, s, m, args, below, meth, c, A, Q⟩ := g
  exact fun H locs ls hP hD hS hl => lv_icmp_ge hg.1 hg.2.1 hd ht (fun h => kt h H locs ls hP hD hS hl) (fun h => kf h H locs ls hP hD hS hl)
theorem j_icmp_gt (hg : Ok E nL g l0 cc own Ts R0) {x y : Int32} {off : Int} {tgt : Nat} (hd : decode cc pc = .ok (.if_icmp .gt off, 3)) (ht : (pc : Int) + off = (tgt : Int)) (kt : y < x → J E nL g ws lv cells slots tgt (st)) (kf : ¬ y < x → J E nL g ws lv cells slots (pc + 3) (st)) : J E nL g ws lv cells slots pc (.int y :: .int x :: st) := by
  obtain ⟨p, l, e, R, s, m, args, below, meth, c, A, Q⟩ := g
  exact fun H locs ls hP hD hS hl => lv_icmp_gt hg.1 hg.2.1 hd ht (fun h => kt h H locs ls hP hD hS hl) (fun h => kf h H locs ls hP hD hS hl)
theorem j_icmp_le (hg : Ok E nL g l0 cc own Ts R0) {x y : Int32} {off : Int} {tgt : Nat} (hd : decode cc pc = .ok (.if_icmp .le off, 3)) (ht : (pc : Int) + off = (tgt : Int)) (kt : x ≤ y → J E nL g ws lv cells slots tgt (st)) (kf : ¬ x ≤ y → J E nL g ws lv cells slots (pc + 3) (st)) : J E nL g ws lv cells slots pc (.int y :: .int x :: st) := by
  obtain ⟨p, l, e, R, s, m, args, below, meth, c, A, Q⟩ := g
  exact fun H locs ls hP hD hS hl => lv_icmp_le hg.1 hg.2.1 hd ht (fun h => kt h H locs ls hP hD hS hl) (fun h => kf h H locs ls hP hD hS hl)
theorem j_goto (hg : Ok E nL g l0 cc own Ts R0) {off : Int} {tgt : Nat} (hd : decode cc pc = .ok (.goto off, 3)) (ht : (pc : Int) + off = (tgt : Int)) (k : J E nL g ws lv cells slots tgt (st)) : J E nL g ws lv cells slots pc (st) := by
  obtain ⟨p, l, e, R, s, m, args, below, meth, c, A, Q⟩ := g
  exact fun H locs ls hP hD hS hl => lv_goto hg.1 hg.2.1 hd ht (k H locs ls hP hD hS hl)
theorem j_ldc (hg : Ok E nL g l0 cc own Ts R0) {index : Nat} {v : Int32} (hc : Cond.constant own index v ∈ Ts) (hd : decode cc pc = .ok (.ldc index, 2)) (k : J E nL g ws lv cells slots (pc + 2) (.int v :: st)) : J E nL g ws lv cells slots pc (st) := by
  obtain ⟨p, l, e, R, s, m, args, below, meth, c, A, Q⟩ := g
  exact fun H locs ls hP hD hS hl => lv_ldc hg.1 hg.2.1 hg.2.2.2.1 (hg.2.2.2.2.1 _ hc) hd (k H locs ls hP hD hS hl)
theorem j_ldcw (hg : Ok E nL g l0 cc own Ts R0) {index : Nat} {v : Int32} (hc : Cond.constant own index v ∈ Ts) (hd : decode cc pc = .ok (.ldc_w index, 3)) (k : J E nL g ws lv cells slots (pc + 3) (.int v :: st)) : J E nL g ws lv cells slots pc (st) := by
  obtain ⟨p, l, e, R, s, m, args, below, meth, c, A, Q⟩ := g
  exact fun H locs ls hP hD hS hl => lv_ldcw hg.1 hg.2.1 hg.2.2.2.1 (hg.2.2.2.2.1 _ hc) hd (k H locs ls hP hD hS hl)
theorem j_ldc2 (hg : Ok E nL g l0 cc own Ts R0) {index : Nat} {v : Int64} (hc : Cond.constantLong own index v ∈ Ts) (hd : decode cc pc = .ok (.ldc2_w index, 3)) (k : J E nL g ws lv cells slots (pc + 3) (.long v :: st)) : J E nL g ws lv cells slots pc (st) := by
  obtain ⟨p, l, e, R, s, m, args, below, meth, c, A, Q⟩ := g
  exact fun H locs ls hP hD hS hl => lv_ldc2 hg.1 hg.2.1 hg.2.2.2.1 (hg.2.2.2.2.1 _ hc) hd (k H locs ls hP hD hS hl)
theorem j_get (hg : Ok E nL g l0 cc own Ts R0) {C : String} {T : u_T} {N ci index a : Nat} {fs : List Value} {v : Value} (hin : ∀ w ∈ u_ws C T N, w ∈ Ts) (q0 : Nat) (he : ws[q0]? = some (ob a ci fs)) (hc : vwCl[ci]? = some (C, T, N)) (f : Nat) (hk : f < N) (hl : Cond.fieldLink own index (T f).1 (T f).2.1 (T f).2.2.1 ∈ Ts) (hv : fs[f]? = some v) (hd : decode cc pc = .ok (.getfield index, 3)) (k : J E nL g ws lv cells slots (pc + 3) (v :: st)) : J E nL g ws lv cells slots pc (.ref a :: st) := by
  obtain ⟨p, l, e, R, s, m, args, below, meth, c, A, Q⟩ := g
  exact fun H locs ls hP hD hS hl9 => va_get hg.1 hg.2.1 hg.2.2.2.2.1 hin hg.2.2.2.1 hg.2.2.2.2.2.1 hP q0 he hc f hk (hg.2.2.2.2.1 _ hl) (fun _ h9 => h9) hv hd (k H locs ls hP hD hS hl9)
theorem j_put (hg : Ok E nL g l0 cc own Ts R0) {C : String} {T : u_T} {N ci index a : Nat} {fs : List Value} {v : Value} {ty : FieldType} {ws' : va_W} (hin : ∀ w ∈ u_ws C T N, w ∈ Ts) (ty0 : Nat → FieldType) (hty : ∀ k, k < N → parseFieldDescriptor (T k).2.2.1 = some (ty0 k)) (hnm : ∀ a, a < N → ∀ b, b < N → a ≠ b → (T a).2.1 ≠ (T b).2.1) (q0 : Nat) (he : ws[q0]? = some (ob a ci fs)) (hc : vwCl[ci]? = some (C, T, N)) (f : Nat) (hk : f < N) (hl : Cond.fieldLink own index (T f).1 (T f).2.1 (T f).2.2.1 ∈ Ts) (hfin : (T f).2.2.2 = false) (hpd : parseFieldDescriptor (T f).2.2.1 = some ty) (hn : narrow ty v = v) (hfit : fits ty v = true) (hlt : f < fs.length) (hw : ws.set q0 (ob a ci (fs.set f v)) = ws') (hd : decode cc pc = .ok (.putfield index, 3)) (k : J E nL g ws' lv cells slots (pc + 3) (st)) : J E nL g ws lv cells slots pc (v :: .ref a :: st) := by
  obtain ⟨p, l, e, R, s, m, args, below, meth, c, A, Q⟩ := g
  subst hw
  exact fun H locs ls hP hD hS hl9 => va_put hg.1 hg.2.1 hg.2.2.2.2.1 hin ty0 hty hnm hg.2.2.2.1 hg.2.2.2.2.2.1 hP hD hS q0 he hc f hk (hg.2.2.2.2.1 _ hl) (fun _ h9 => h9) hfin hpd hn hfit hlt hd (fun H1 locs1 hP1 hD1 hS1 => k H1 locs1 ls hP1 hD1 hS1 hl9)
theorem j_putF {w0 : va_W} {S : Type} {post : S → Prop} {r : S → Option Value} {w1 : S → va_W} {rm : Room} {ret : Option FieldType} (hg : Ok E nL g l0 cc own Ts R0) (hR : Rt E g w0 S post r w1 rm ret "<init>") {C : String} {T : u_T} {N ci index a : Nat} {fs : List Value} {v : Value} {ty : FieldType} {ws' : va_W} (hin : ∀ w ∈ u_ws C T N, w ∈ Ts) (ty0 : Nat → FieldType) (hty : ∀ k, k < N → parseFieldDescriptor (T k).2.2.1 = some (ty0 k)) (hnm : ∀ a, a < N → ∀ b, b < N → a ≠ b → (T a).2.1 ≠ (T b).2.1) (q0 : Nat) (he : ws[q0]? = some (ob a ci fs)) (hc : vwCl[ci]? = some (C, T, N)) (f : Nat) (hk : f < N) (hl : Cond.fieldLink own index (T f).1 (T f).2.1 (T f).2.2.1 ∈ Ts) (hfin : (T f).2.2.2 = true) (ho : (T f).1 = own) (hpd : parseFieldDescriptor (T f).2.2.1 = some ty) (hn : narrow ty v = v) (hfit : fits ty v = true) (hlt : f < fs.length) (hw : ws.set q0 (ob a ci (fs.set f v)) = ws') (hd : decode cc pc = .ok (.putfield index, 3)) (k : J E nL g ws' lv cells slots (pc + 3) (st)) : J E nL g ws lv cells slots pc (v :: .ref a :: st) := by
  obtain ⟨p, l, e, R, s, m, args, below, meth, c, A, Q⟩ := g
  subst hw
  exact fun H locs ls hP hD hS hl9 => va_putF hg.1 hg.2.1 hg.2.2.2.2.1 hin ty0 hty hnm hg.2.2.2.1 hg.2.2.2.2.2.1 hP hD hS q0 he hc f hk (hg.2.2.2.2.1 _ hl) (fun _ h9 => h9) hfin hR.2.2.2 ho hpd hn hfit hlt hd (fun H1 locs1 hP1 hD1 hS1 => k H1 locs1 ls hP1 hD1 hS1 hl9)
theorem j_bald (hg : Ok E nL g l0 cc own Ts R0) {a n : Nat} {f : Nat → Int32} {i : Int32} {v : Int32} (q0 j : Nat) (ha : ws[q0]? = some (aB E a n f)) (hi : i = nI j) (hj : j < n) (hn : n < 2147483648) (hv : f j = v) (hd : decode cc pc = .ok (.baload, 1)) (k : J E nL g ws lv cells slots (pc + 1) (.int v :: st)) : J E nL g ws lv cells slots pc (.int i :: .ref a :: st) := by
  obtain ⟨p, l, e, R, s, m, args, below, meth, c, A, Q⟩ := g
  subst hi hv
  have e : (nI j).toNatClampNeg = j := nI_clamp (by omega)
  exact fun H locs ls hP hD hS hl => va_bald hg.1 hg.2.1 hg.2.2.2.2.2.1 hP q0 0 ha rfl (vp_in_nI hj hn) hd (by rw [e]; exact k H locs ls hP hD hS hl)
theorem j_iald (hg : Ok E nL g l0 cc own Ts R0) {a n : Nat} {f : Nat → Int32} {i : Int32} {v : Int32} (q0 j : Nat) (ha : ws[q0]? = some (aI E a n f)) (hi : i = nI j) (hj : j < n) (hn : n < 2147483648) (hv : f j = v) (hd : decode cc pc = .ok (.iaload, 1)) (k : J E nL g ws lv cells slots (pc + 1) (.int v :: st)) : J E nL g ws lv cells slots pc (.int i :: .ref a :: st) := by
  obtain ⟨p, l, e, R, s, m, args, below, meth, c, A, Q⟩ := g
  subst hi hv
  have e : (nI j).toNatClampNeg = j := nI_clamp (by omega)
  exact fun H locs ls hP hD hS hl => va_iald hg.1 hg.2.1 hg.2.2.2.2.2.1 hP q0 1 ha rfl (vp_in_nI hj hn) hd (by rw [e]; exact k H locs ls hP hD hS hl)
theorem j_lald (hg : Ok E nL g l0 cc own Ts R0) {a n : Nat} {f : Nat → Int64} {i : Int32} {v : Int64} (q0 j : Nat) (ha : ws[q0]? = some (aL E a n f)) (hi : i = nI j) (hj : j < n) (hn : n < 2147483648) (hv : f j = v) (hd : decode cc pc = .ok (.laload, 1)) (k : J E nL g ws lv cells slots (pc + 1) (.long v :: st)) : J E nL g ws lv cells slots pc (.int i :: .ref a :: st) := by
  obtain ⟨p, l, e, R, s, m, args, below, meth, c, A, Q⟩ := g
  subst hi hv
  have e : (nI j).toNatClampNeg = j := nI_clamp (by omega)
  exact fun H locs ls hP hD hS hl => va_lald hg.1 hg.2.1 hg.2.2.2.2.2.1 hP q0 2 ha rfl (vp_in_nI hj hn) hd (by rw [e]; exact k H locs ls hP hD hS hl)
theorem j_bast (hg : Ok E nL g l0 cc own Ts R0) {a n : Nat} {f : Nat → Int32} {i : Int32} {x v : Int32} {ws' : va_W} (q0 j : Nat) (ha : ws[q0]? = some (aB E a n f)) (hi : i = nI j) (hj : j < n) (hn : n < 2147483648) (hv : vp_nar .byte x = v) (hw : ws.set q0 (aB E a n (upd f j v)) = ws') (hd : decode cc pc = .ok (.bastore, 1)) (k : J E nL g ws' lv cells slots (pc + 1) (st)) : J E nL g ws lv cells slots pc (.int x :: .int i :: .ref a :: st) := by
  obtain ⟨p, l, e, R, s, m, args, below, meth, c, A, Q⟩ := g
  subst hi hv hw
  have e : (nI j).toNatClampNeg = j := nI_clamp (by omega)
  exact fun H locs ls hP hD hS hl => va_bast hg.1 hg.2.1 hg.2.2.2.2.2.1 hP hD hS q0 0 ha rfl (vp_in_nI hj hn) hd (fun H1 locs1 hP1 hD1 hS1 => by rw [e] at hP1 hD1; exact k H1 locs1 ls hP1 hD1 hS1 hl)
theorem j_iast (hg : Ok E nL g l0 cc own Ts R0) {a n : Nat} {f : Nat → Int32} {i : Int32} {x : Int32} {ws' : va_W} (q0 j : Nat) (ha : ws[q0]? = some (aI E a n f)) (hi : i = nI j) (hj : j < n) (hn : n < 2147483648) (hw : ws.set q0 (aI E a n (upd f j x)) = ws') (hd : decode cc pc = .ok (.iastore, 1)) (k : J E nL g ws' lv cells slots (pc + 1) (st)) : J E nL g ws lv cells slots pc (.int x :: .int i :: .ref a :: st) := by
  obtain ⟨p, l, e, R, s, m, args, below, meth, c, A, Q⟩ := g
  subst hi hw
  have e : (nI j).toNatClampNeg = j := nI_clamp (by omega)
  exact fun H locs ls hP hD hS hl => va_iast hg.1 hg.2.1 hg.2.2.2.2.2.1 hP hD hS q0 1 ha rfl (vp_in_nI hj hn) hd (fun H1 locs1 hP1 hD1 hS1 => by rw [e] at hP1 hD1; exact k H1 locs1 ls hP1 hD1 hS1 hl)
theorem j_last (hg : Ok E nL g l0 cc own Ts R0) {a n : Nat} {f : Nat → Int64} {i : Int32} {x : Int64} {ws' : va_W} (q0 j : Nat) (ha : ws[q0]? = some (aL E a n f)) (hi : i = nI j) (hj : j < n) (hn : n < 2147483648) (hw : ws.set q0 (aL E a n (vp_updL f j x)) = ws') (hd : decode cc pc = .ok (.lastore, 1)) (k : J E nL g ws' lv cells slots (pc + 1) (st)) : J E nL g ws lv cells slots pc (.long x :: .int i :: .ref a :: st) := by
  obtain ⟨p, l, e, R, s, m, args, below, meth, c, A, Q⟩ := g
  subst hi hw
  have e : (nI j).toNatClampNeg = j := nI_clamp (by omega)
  exact fun H locs ls hP hD hS hl => va_last hg.1 hg.2.1 hg.2.2.2.2.2.1 hP hD hS q0 2 ha rfl (vp_in_nI hj hn) hd (fun H1 locs1 hP1 hD1 hS1 => by rw [e] at hP1 hD1; exact k H1 locs1 ls hP1 hD1 hS1 hl)
theorem j_alenB (hg : Ok E nL g l0 cc own Ts R0) {a n : Nat} {f : Nat → Int32} {v : Int32} (q0 : Nat) (ha : ws[q0]? = some (aB E a n f)) (hv : nI n = v) (hd : decode cc pc = .ok (.arraylength, 1)) (k : J E nL g ws lv cells slots (pc + 1) (.int v :: st)) : J E nL g ws lv cells slots pc (.ref a :: st) := by
  obtain ⟨p, l, e, R, s, m, args, below, meth, c, A, Q⟩ := g
  exact fun H locs ls hP hD hS hl => va_alen hg.1 hg.2.1 hg.2.2.2.2.2.1 hP q0 0 ha rfl hv hd (k H locs ls hP hD hS hl)
theorem j_alenI (hg : Ok E nL g l0 cc own Ts R0) {a n : Nat} {f : Nat → Int32} {v : Int32} (q0 : Nat) (ha : ws[q0]? = some (aI E a n f)) (hv : nI n = v) (hd : decode cc pc = .ok (.arraylength, 1)) (k : J E nL g ws lv cells slots (pc + 1) (.int v :: st)) : J E nL g ws lv cells slots pc (.ref a :: st) := by
  obtain ⟨p, l, e, R, s, m, args, below, meth, c, A, Q⟩ := g
  exact fun H locs ls hP hD hS hl => va_alen hg.1 hg.2.1 hg.2.2.2.2.2.1 hP q0 1 ha rfl hv hd (k H locs ls hP hD hS hl)
theorem j_alenL (hg : Ok E nL g l0 cc own Ts R0) {a n : Nat} {f : Nat → Int64} {v : Int32} (q0 : Nat) (ha : ws[q0]? = some (aL E a n f)) (hv : nI n = v) (hd : decode cc pc = .ok (.arraylength, 1)) (k : J E nL g ws lv cells slots (pc + 1) (.int v :: st)) : J E nL g ws lv cells slots pc (.ref a :: st) := by
  obtain ⟨p, l, e, R, s, m, args, below, meth, c, A, Q⟩ := g
  exact fun H locs ls hP hD hS hl => va_alen hg.1 hg.2.1 hg.2.2.2.2.2.1 hP q0 2 ha rfl hv hd (k H locs ls hP hD hS hl)
theorem j_nge (hg : Ok E nL g l0 cc own Ts R0) {x y : Int32} {off : Int} {tgt : Nat} (a b : Nat) (hx : x = nI a) (hy : y = nI b) (ha : a < 2147483648) (hb : b < 2147483648) (hd : decode cc pc = .ok (.if_icmp .ge off, 3)) (ht : (pc : Int) + off = (tgt : Int)) (kt : b ≤ a → J E nL g ws lv cells slots tgt st) (kf : a < b → J E nL g ws lv cells slots (pc + 3) st) : J E nL g ws lv cells slots pc (.int y :: .int x :: st) := by
  subst hx hy
  exact j_icmp_ge hg hd ht (fun c => kt ((nI_leI hb ha).mp c)) (fun c => kf (Nat.not_le.mp (fun z => c ((nI_leI hb ha).mpr z))))
theorem j_nge_t (hg : Ok E nL g l0 cc own Ts R0) {x y : Int32} {off : Int} {tgt : Nat} (a b : Nat) (hx : x = nI a) (hy : y = nI b) (ha : a < 2147483648) (hb : b < 2147483648) (h : b ≤ a) (hd : decode cc pc = .ok (.if_icmp .ge off, 3)) (ht : (pc : Int) + off = (tgt : Int)) (k : J E nL g ws lv cells slots tgt st) : J E nL g ws lv cells slots pc (.int y :: .int x :: st) := j_nge hg a b hx hy ha hb hd ht (fun _ => k) (fun z => absurd h (by omega))
theorem j_nge_f (hg : Ok E nL g l0 cc own Ts R0) {x y : Int32} {off : Int} {tgt : Nat} (a b : Nat) (hx : x = nI a) (hy : y = nI b) (ha : a < 2147483648) (hb : b < 2147483648) (h : a < b) (hd : decode cc pc = .ok (.if_icmp .ge off, 3)) (ht : (pc : Int) + off = (tgt : Int)) (k : J E nL g ws lv cells slots (pc + 3) st) : J E nL g ws lv cells slots pc (.int y :: .int x :: st) := j_nge hg a b hx hy ha hb hd ht (fun z => absurd h (by omega)) (fun _ => k)
theorem j_nlt (hg : Ok E nL g l0 cc own Ts R0) {x y : Int32} {off : Int} {tgt : Nat} (a b : Nat) (hx : x = nI a) (hy : y = nI b) (ha : a < 2147483648) (hb : b < 2147483648) (hd : decode cc pc = .ok (.if_icmp .lt off, 3)) (ht : (pc : Int) + off = (tgt : Int)) (kt : a < b → J E nL g ws lv cells slots tgt st) (kf : b ≤ a → J E nL g ws lv cells slots (pc + 3) st) : J E nL g ws lv cells slots pc (.int y :: .int x :: st) := by
  subst hx hy
  exact j_icmp_lt hg hd ht (fun c => kt ((nI_ltI ha hb).mp c)) (fun c => kf (Nat.not_lt.mp (fun z => c ((nI_ltI ha hb).mpr z))))
theorem j_nlt_t (hg : Ok E nL g l0 cc own Ts R0) {x y : Int32} {off : Int} {tgt : Nat} (a b : Nat) (hx : x = nI a) (hy : y = nI b) (ha : a < 2147483648) (hb : b < 2147483648) (h : a < b) (hd : decode cc pc = .ok (.if_icmp .lt off, 3)) (ht : (pc : Int) + off = (tgt : Int)) (k : J E nL g ws lv cells slots tgt st) : J E nL g ws lv cells slots pc (.int y :: .int x :: st) := j_nlt hg a b hx hy ha hb hd ht (fun _ => k) (fun z => absurd h (by omega))
theorem j_nlt_f (hg : Ok E nL g l0 cc own Ts R0) {x y : Int32} {off : Int} {tgt : Nat} (a b : Nat) (hx : x = nI a) (hy : y = nI b) (ha : a < 2147483648) (hb : b < 2147483648) (h : b ≤ a) (hd : decode cc pc = .ok (.if_icmp .lt off, 3)) (ht : (pc : Int) + off = (tgt : Int)) (k : J E nL g ws lv cells slots (pc + 3) st) : J E nL g ws lv cells slots pc (.int y :: .int x :: st) := j_nlt hg a b hx hy ha hb hd ht (fun z => absurd h (by omega)) (fun _ => k)
theorem j_ngt (hg : Ok E nL g l0 cc own Ts R0) {x y : Int32} {off : Int} {tgt : Nat} (a b : Nat) (hx : x = nI a) (hy : y = nI b) (ha : a < 2147483648) (hb : b < 2147483648) (hd : decode cc pc = .ok (.if_icmp .gt off, 3)) (ht : (pc : Int) + off = (tgt : Int)) (kt : b < a → J E nL g ws lv cells slots tgt st) (kf : a ≤ b → J E nL g ws lv cells slots (pc + 3) st) : J E nL g ws lv cells slots pc (.int y :: .int x :: st) := by
  subst hx hy
  exact j_icmp_gt hg hd ht (fun c => kt ((nI_ltI hb ha).mp c)) (fun c => kf (Nat.not_lt.mp (fun z => c ((nI_ltI hb ha).mpr z))))
theorem j_ngt_t (hg : Ok E nL g l0 cc own Ts R0) {x y : Int32} {off : Int} {tgt : Nat} (a b : Nat) (hx : x = nI a) (hy : y = nI b) (ha : a < 2147483648) (hb : b < 2147483648) (h : b < a) (hd : decode cc pc = .ok (.if_icmp .gt off, 3)) (ht : (pc : Int) + off = (tgt : Int)) (k : J E nL g ws lv cells slots tgt st) : J E nL g ws lv cells slots pc (.int y :: .int x :: st) := j_ngt hg a b hx hy ha hb hd ht (fun _ => k) (fun z => absurd h (by omega))
theorem j_ngt_f (hg : Ok E nL g l0 cc own Ts R0) {x y : Int32} {off : Int} {tgt : Nat} (a b : Nat) (hx : x = nI a) (hy : y = nI b) (ha : a < 2147483648) (hb : b < 2147483648) (h : a ≤ b) (hd : decode cc pc = .ok (.if_icmp .gt off, 3)) (ht : (pc : Int) + off = (tgt : Int)) (k : J E nL g ws lv cells slots (pc + 3) st) : J E nL g ws lv cells slots pc (.int y :: .int x :: st) := j_ngt hg a b hx hy ha hb hd ht (fun z => absurd h (by omega)) (fun _ => k)
theorem j_nle (hg : Ok E nL g l0 cc own Ts R0) {x y : Int32} {off : Int} {tgt : Nat} (a b : Nat) (hx : x = nI a) (hy : y = nI b) (ha : a < 2147483648) (hb : b < 2147483648) (hd : decode cc pc = .ok (.if_icmp .le off, 3)) (ht : (pc : Int) + off = (tgt : Int)) (kt : a ≤ b → J E nL g ws lv cells slots tgt st) (kf : b < a → J E nL g ws lv cells slots (pc + 3) st) : J E nL g ws lv cells slots pc (.int y :: .int x :: st) := by
  subst hx hy
  exact j_icmp_le hg hd ht (fun c => kt ((nI_leI ha hb).mp c)) (fun c => kf (Nat.not_le.mp (fun z => c ((nI_leI ha hb).mpr z))))
theorem j_nle_t (hg : Ok E nL g l0 cc own Ts R0) {x y : Int32} {off : Int} {tgt : Nat} (a b : Nat) (hx : x = nI a) (hy : y = nI b) (ha : a < 2147483648) (hb : b < 2147483648) (h : a ≤ b) (hd : decode cc pc = .ok (.if_icmp .le off, 3)) (ht : (pc : Int) + off = (tgt : Int)) (k : J E nL g ws lv cells slots tgt st) : J E nL g ws lv cells slots pc (.int y :: .int x :: st) := j_nle hg a b hx hy ha hb hd ht (fun _ => k) (fun z => absurd h (by omega))
theorem j_nle_f (hg : Ok E nL g l0 cc own Ts R0) {x y : Int32} {off : Int} {tgt : Nat} (a b : Nat) (hx : x = nI a) (hy : y = nI b) (ha : a < 2147483648) (hb : b < 2147483648) (h : b < a) (hd : decode cc pc = .ok (.if_icmp .le off, 3)) (ht : (pc : Int) + off = (tgt : Int)) (k : J E nL g ws lv cells slots (pc + 3) st) : J E nL g ws lv cells slots pc (.int y :: .int x :: st) := j_nle hg a b hx hy ha hb hd ht (fun z => absurd h (by omega)) (fun _ => k)
theorem j_neq (hg : Ok E nL g l0 cc own Ts R0) {x y : Int32} {off : Int} {tgt : Nat} (a b : Nat) (hx : x = nI a) (hy : y = nI b) (ha : a < 2147483648) (hb : b < 2147483648) (hd : decode cc pc = .ok (.if_icmp .eq off, 3)) (ht : (pc : Int) + off = (tgt : Int)) (kt : a = b → J E nL g ws lv cells slots tgt st) (kf : a ≠ b → J E nL g ws lv cells slots (pc + 3) st) : J E nL g ws lv cells slots pc (.int y :: .int x :: st) := by
  subst hx hy
  exact j_icmp_eq hg hd ht (fun c => kt ((nI_eq ha hb).mp c)) (fun c => kf (fun z => c ((nI_eq ha hb).mpr z)))
theorem j_neq_t (hg : Ok E nL g l0 cc own Ts R0) {x y : Int32} {off : Int} {tgt : Nat} (a b : Nat) (hx : x = nI a) (hy : y = nI b) (ha : a < 2147483648) (hb : b < 2147483648) (h : a = b) (hd : decode cc pc = .ok (.if_icmp .eq off, 3)) (ht : (pc : Int) + off = (tgt : Int)) (k : J E nL g ws lv cells slots tgt st) : J E nL g ws lv cells slots pc (.int y :: .int x :: st) := j_neq hg a b hx hy ha hb hd ht (fun _ => k) (fun z => absurd h (by omega))
theorem j_neq_f (hg : Ok E nL g l0 cc own Ts R0) {x y : Int32} {off : Int} {tgt : Nat} (a b : Nat) (hx : x = nI a) (hy : y = nI b) (ha : a < 2147483648) (hb : b < 2147483648) (h : a ≠ b) (hd : decode cc pc = .ok (.if_icmp .eq off, 3)) (ht : (pc : Int) + off = (tgt : Int)) (k : J E nL g ws lv cells slots (pc + 3) st) : J E nL g ws lv cells slots pc (.int y :: .int x :: st) := j_neq hg a b hx hy ha hb hd ht (fun z => absurd h (by omega)) (fun _ => k)
theorem j_nne (hg : Ok E nL g l0 cc own Ts R0) {x y : Int32} {off : Int} {tgt : Nat} (a b : Nat) (hx : x = nI a) (hy : y = nI b) (ha : a < 2147483648) (hb : b < 2147483648) (hd : decode cc pc = .ok (.if_icmp .ne off, 3)) (ht : (pc : Int) + off = (tgt : Int)) (kt : a ≠ b → J E nL g ws lv cells slots tgt st) (kf : a = b → J E nL g ws lv cells slots (pc + 3) st) : J E nL g ws lv cells slots pc (.int y :: .int x :: st) := by
  subst hx hy
  exact j_icmp_ne hg hd ht (fun c => kt (fun z => c ((nI_eq ha hb).mpr z))) (fun c => kf ((nI_eq ha hb).mp c))
theorem j_nne_t (hg : Ok E nL g l0 cc own Ts R0) {x y : Int32} {off : Int} {tgt : Nat} (a b : Nat) (hx : x = nI a) (hy : y = nI b) (ha : a < 2147483648) (hb : b < 2147483648) (h : a ≠ b) (hd : decode cc pc = .ok (.if_icmp .ne off, 3)) (ht : (pc : Int) + off = (tgt : Int)) (k : J E nL g ws lv cells slots tgt st) : J E nL g ws lv cells slots pc (.int y :: .int x :: st) := j_nne hg a b hx hy ha hb hd ht (fun _ => k) (fun z => absurd h (by omega))
theorem j_nne_f (hg : Ok E nL g l0 cc own Ts R0) {x y : Int32} {off : Int} {tgt : Nat} (a b : Nat) (hx : x = nI a) (hy : y = nI b) (ha : a < 2147483648) (hb : b < 2147483648) (h : a = b) (hd : decode cc pc = .ok (.if_icmp .ne off, 3)) (ht : (pc : Int) + off = (tgt : Int)) (k : J E nL g ws lv cells slots (pc + 3) st) : J E nL g ws lv cells slots pc (.int y :: .int x :: st) := j_nne hg a b hx hy ha hb hd ht (fun z => absurd h (by omega)) (fun _ => k)
theorem j_zge (hg : Ok E nL g l0 cc own Ts R0) {x : Int32} {off : Int} {tgt : Nat} (a : Nat) (hx : x = nI a) (ha : a < 2147483648) (hd : decode cc pc = .ok (.ifCond .ge off, 3)) (ht : (pc : Int) + off = (tgt : Int)) (kt : 0 ≤ a → J E nL g ws lv cells slots tgt st) (kf : a < 0 → J E nL g ws lv cells slots (pc + 3) st) : J E nL g ws lv cells slots pc (.int x :: st) := by
  subst hx
  have h0 : (0 : Nat) < 2147483648 := by decide
  exact j_if_ge hg hd ht (fun c => kt ((nI_leI h0 ha).mp c)) (fun c => kf (Nat.not_le.mp (fun z => c ((nI_leI h0 ha).mpr z))))
theorem j_zge_t (hg : Ok E nL g l0 cc own Ts R0) {x : Int32} {off : Int} {tgt : Nat} (a : Nat) (hx : x = nI a) (ha : a < 2147483648) (h : 0 ≤ a) (hd : decode cc pc = .ok (.ifCond .ge off, 3)) (ht : (pc : Int) + off = (tgt : Int)) (k : J E nL g ws lv cells slots tgt st) : J E nL g ws lv cells slots pc (.int x :: st) := j_zge hg a hx ha hd ht (fun _ => k) (fun z => absurd h (by omega))
theorem j_zge_f (hg : Ok E nL g l0 cc own Ts R0) {x : Int32} {off : Int} {tgt : Nat} (a : Nat) (hx : x = nI a) (ha : a < 2147483648) (h : a < 0) (hd : decode cc pc = .ok (.ifCond .ge off, 3)) (ht : (pc : Int) + off = (tgt : Int)) (k : J E nL g ws lv cells slots (pc + 3) st) : J E nL g ws lv cells slots pc (.int x :: st) := j_zge hg a hx ha hd ht (fun z => absurd h (by omega)) (fun _ => k)
theorem j_zlt (hg : Ok E nL g l0 cc own Ts R0) {x : Int32} {off : Int} {tgt : Nat} (a : Nat) (hx : x = nI a) (ha : a < 2147483648) (hd : decode cc pc = .ok (.ifCond .lt off, 3)) (ht : (pc : Int) + off = (tgt : Int)) (kt : a < 0 → J E nL g ws lv cells slots tgt st) (kf : 0 ≤ a → J E nL g ws lv cells slots (pc + 3) st) : J E nL g ws lv cells slots pc (.int x :: st) := by
  subst hx
  have h0 : (0 : Nat) < 2147483648 := by decide
  exact j_if_lt hg hd ht (fun c => kt ((nI_ltI ha h0).mp c)) (fun c => kf (Nat.not_lt.mp (fun z => c ((nI_ltI ha h0).mpr z))))
theorem j_zlt_t (hg : Ok E nL g l0 cc own Ts R0) {x : Int32} {off : Int} {tgt : Nat} (a : Nat) (hx : x = nI a) (ha : a < 2147483648) (h : a < 0) (hd : decode cc pc = .ok (.ifCond .lt off, 3)) (ht : (pc : Int) + off = (tgt : Int)) (k : J E nL g ws lv cells slots tgt st) : J E nL g ws lv cells slots pc (.int x :: st) := j_zlt hg a hx ha hd ht (fun _ => k) (fun z => absurd h (by omega))
theorem j_zlt_f (hg : Ok E nL g l0 cc own Ts R0) {x : Int32} {off : Int} {tgt : Nat} (a : Nat) (hx : x = nI a) (ha : a < 2147483648) (h : 0 ≤ a) (hd : decode cc pc = .ok (.ifCond .lt off, 3)) (ht : (pc : Int) + off = (tgt : Int)) (k : J E nL g ws lv cells slots (pc + 3) st) : J E nL g ws lv cells slots pc (.int x :: st) := j_zlt hg a hx ha hd ht (fun z => absurd h (by omega)) (fun _ => k)
theorem j_zgt (hg : Ok E nL g l0 cc own Ts R0) {x : Int32} {off : Int} {tgt : Nat} (a : Nat) (hx : x = nI a) (ha : a < 2147483648) (hd : decode cc pc = .ok (.ifCond .gt off, 3)) (ht : (pc : Int) + off = (tgt : Int)) (kt : 0 < a → J E nL g ws lv cells slots tgt st) (kf : a ≤ 0 → J E nL g ws lv cells slots (pc + 3) st) : J E nL g ws lv cells slots pc (.int x :: st) := by
  subst hx
  have h0 : (0 : Nat) < 2147483648 := by decide
  exact j_if_gt hg hd ht (fun c => kt ((nI_ltI h0 ha).mp c)) (fun c => kf (Nat.not_lt.mp (fun z => c ((nI_ltI h0 ha).mpr z))))
theorem j_zgt_t (hg : Ok E nL g l0 cc own Ts R0) {x : Int32} {off : Int} {tgt : Nat} (a : Nat) (hx : x = nI a) (ha : a < 2147483648) (h : 0 < a) (hd : decode cc pc = .ok (.ifCond .gt off, 3)) (ht : (pc : Int) + off = (tgt : Int)) (k : J E nL g ws lv cells slots tgt st) : J E nL g ws lv cells slots pc (.int x :: st) := j_zgt hg a hx ha hd ht (fun _ => k) (fun z => absurd h (by omega))
theorem j_zgt_f (hg : Ok E nL g l0 cc own Ts R0) {x : Int32} {off : Int} {tgt : Nat} (a : Nat) (hx : x = nI a) (ha : a < 2147483648) (h : a ≤ 0) (hd : decode cc pc = .ok (.ifCond .gt off, 3)) (ht : (pc : Int) + off = (tgt : Int)) (k : J E nL g ws lv cells slots (pc + 3) st) : J E nL g ws lv cells slots pc (.int x :: st) := j_zgt hg a hx ha hd ht (fun z => absurd h (by omega)) (fun _ => k)
theorem j_zle (hg : Ok E nL g l0 cc own Ts R0) {x : Int32} {off : Int} {tgt : Nat} (a : Nat) (hx : x = nI a) (ha : a < 2147483648) (hd : decode cc pc = .ok (.ifCond .le off, 3)) (ht : (pc : Int) + off = (tgt : Int)) (kt : a ≤ 0 → J E nL g ws lv cells slots tgt st) (kf : 0 < a → J E nL g ws lv cells slots (pc + 3) st) : J E nL g ws lv cells slots pc (.int x :: st) := by
  subst hx
  have h0 : (0 : Nat) < 2147483648 := by decide
  exact j_if_le hg hd ht (fun c => kt ((nI_leI ha h0).mp c)) (fun c => kf (Nat.not_le.mp (fun z => c ((nI_leI ha h0).mpr z))))
theorem j_zle_t (hg : Ok E nL g l0 cc own Ts R0) {x : Int32} {off : Int} {tgt : Nat} (a : Nat) (hx : x = nI a) (ha : a < 2147483648) (h : a ≤ 0) (hd : decode cc pc = .ok (.ifCond .le off, 3)) (ht : (pc : Int) + off = (tgt : Int)) (k : J E nL g ws lv cells slots tgt st) : J E nL g ws lv cells slots pc (.int x :: st) := j_zle hg a hx ha hd ht (fun _ => k) (fun z => absurd h (by omega))
theorem j_zle_f (hg : Ok E nL g l0 cc own Ts R0) {x : Int32} {off : Int} {tgt : Nat} (a : Nat) (hx : x = nI a) (ha : a < 2147483648) (h : 0 < a) (hd : decode cc pc = .ok (.ifCond .le off, 3)) (ht : (pc : Int) + off = (tgt : Int)) (k : J E nL g ws lv cells slots (pc + 3) st) : J E nL g ws lv cells slots pc (.int x :: st) := j_zle hg a hx ha hd ht (fun z => absurd h (by omega)) (fun _ => k)
theorem j_zeq (hg : Ok E nL g l0 cc own Ts R0) {x : Int32} {off : Int} {tgt : Nat} (a : Nat) (hx : x = nI a) (ha : a < 2147483648) (hd : decode cc pc = .ok (.ifCond .eq off, 3)) (ht : (pc : Int) + off = (tgt : Int)) (kt : a = 0 → J E nL g ws lv cells slots tgt st) (kf : a ≠ 0 → J E nL g ws lv cells slots (pc + 3) st) : J E nL g ws lv cells slots pc (.int x :: st) := by
  subst hx
  have h0 : (0 : Nat) < 2147483648 := by decide
  exact j_if_eq hg hd ht (fun c => kt ((nI_eq ha h0).mp c)) (fun c => kf (fun z => c ((nI_eq ha h0).mpr z)))
theorem j_zeq_t (hg : Ok E nL g l0 cc own Ts R0) {x : Int32} {off : Int} {tgt : Nat} (a : Nat) (hx : x = nI a) (ha : a < 2147483648) (h : a = 0) (hd : decode cc pc = .ok (.ifCond .eq off, 3)) (ht : (pc : Int) + off = (tgt : Int)) (k : J E nL g ws lv cells slots tgt st) : J E nL g ws lv cells slots pc (.int x :: st) := j_zeq hg a hx ha hd ht (fun _ => k) (fun z => absurd h (by omega))
theorem j_zeq_f (hg : Ok E nL g l0 cc own Ts R0) {x : Int32} {off : Int} {tgt : Nat} (a : Nat) (hx : x = nI a) (ha : a < 2147483648) (h : a ≠ 0) (hd : decode cc pc = .ok (.ifCond .eq off, 3)) (ht : (pc : Int) + off = (tgt : Int)) (k : J E nL g ws lv cells slots (pc + 3) st) : J E nL g ws lv cells slots pc (.int x :: st) := j_zeq hg a hx ha hd ht (fun z => absurd h (by omega)) (fun _ => k)
theorem j_zne (hg : Ok E nL g l0 cc own Ts R0) {x : Int32} {off : Int} {tgt : Nat} (a : Nat) (hx : x = nI a) (ha : a < 2147483648) (hd : decode cc pc = .ok (.ifCond .ne off, 3)) (ht : (pc : Int) + off = (tgt : Int)) (kt : a ≠ 0 → J E nL g ws lv cells slots tgt st) (kf : a = 0 → J E nL g ws lv cells slots (pc + 3) st) : J E nL g ws lv cells slots pc (.int x :: st) := by
  subst hx
  have h0 : (0 : Nat) < 2147483648 := by decide
  exact j_if_ne hg hd ht (fun c => kt (fun z => c ((nI_eq ha h0).mpr z))) (fun c => kf ((nI_eq ha h0).mp c))
theorem j_zne_t (hg : Ok E nL g l0 cc own Ts R0) {x : Int32} {off : Int} {tgt : Nat} (a : Nat) (hx : x = nI a) (ha : a < 2147483648) (h : a ≠ 0) (hd : decode cc pc = .ok (.ifCond .ne off, 3)) (ht : (pc : Int) + off = (tgt : Int)) (k : J E nL g ws lv cells slots tgt st) : J E nL g ws lv cells slots pc (.int x :: st) := j_zne hg a hx ha hd ht (fun _ => k) (fun z => absurd h (by omega))
theorem j_zne_f (hg : Ok E nL g l0 cc own Ts R0) {x : Int32} {off : Int} {tgt : Nat} (a : Nat) (hx : x = nI a) (ha : a < 2147483648) (h : a = 0) (hd : decode cc pc = .ok (.ifCond .ne off, 3)) (ht : (pc : Int) + off = (tgt : Int)) (k : J E nL g ws lv cells slots (pc + 3) st) : J E nL g ws lv cells slots pc (.int x :: st) := j_zne hg a hx ha hd ht (fun z => absurd h (by omega)) (fun _ => k)
theorem j_gets (hg : Ok E nL g l0 cc own Ts R0) {C n d : String} {ty : FieldType} {N index : Nat} {f : Nat → Value} (z : Nat) (hz : sT[z]? = some (C, n, d, ty, N, f)) (hl : Cond.fieldLink own index C n d ∈ Ts) (hd : decode cc pc = .ok (.getstatic index, 3)) (k : J E nL g ws lv cells slots (pc + 3) (.ref (E.2.2 z) :: st)) : J E nL g ws lv cells slots pc st := by
  obtain ⟨p, l, e, R, s, m, args, below, meth, c, A, Q⟩ := g
  have hZ := (hg.2.2.2.2.2.2.2.1 z _ hz).1
  exact fun H locs ls hP hD hS hl9 => va_gets hg.1 hg.2.1 hZ hS hg.2.2.2.1 (hg.2.2.2.2.1 _ hl) (fun _ h9 => h9) hd (k H locs ls hP hD hS hl9)
theorem j_sti (hg : Ok E nL g l0 cc own Ts R0) {C n d : String} {N : Nat} {f : Nat → Int32} {i v : Int32} (z j : Nat) (hz : sT[z]? = some (C, n, d, .int, N, fun j => .int (f j))) (hi : i = nI j) (hj : j < N) (hn : N < 2147483648) (hv : f j = v) (hd : decode cc pc = .ok (.iaload, 1)) (k : J E nL g ws lv cells slots (pc + 1) (.int v :: st)) : J E nL g ws lv cells slots pc (.int i :: .ref (E.2.2 z) :: st) := by
  obtain ⟨p, l, e, R, s, m, args, below, meth, c, A, Q⟩ := g
  subst hi hv
  have e : (nI j).toNatClampNeg = j := nI_clamp (by omega)
  have hT := (hg.2.2.2.2.2.2.2.1 z _ hz).2
  exact fun H locs ls hP hD hS hl9 => va_ti hg.1 hg.2.1 hT hS (vp_in_nI hj hn) (by rw [e]) hd (k H locs ls hP hD hS hl9)
theorem j_new (hg : Ok E nL g l0 cc own Ts R0) {C : String} {T : u_T} {N ci index : Nat} {fs : List Value} (hin : ∀ w ∈ u_ws C T N, w ∈ Ts) (ty : Nat → FieldType) (hty : ∀ k, k < N → parseFieldDescriptor (T k).2.2.1 = some (ty k)) (hcl : Cond.classLink own index C ∈ Ts) (hinst : Cond.instantiable C N ∈ Ts) (hini : Cond.initialized C ∈ Ts) (hc : vwCl[ci]? = some (C, T, N)) (hfs : ∀ j, j < N → defaultValue (ty j) = vp_V fs j) (hcells : cells + 1 ≤ R0.cells) (hslots : slots + N ≤ R0.slots) (hd : decode cc pc = .ok (.new index, 3)) (k : ∀ q : Nat, J E nL g (ws ++ [ob q ci fs]) lv (cells + 1) (slots + N) (pc + 3) (.ref q :: st)) : J E nL g ws lv cells slots pc st := by
  obtain ⟨p, l, e, R, s, m, args, below, meth, c, A, Q⟩ := g
  have hRR := hg.2.2.2.2.2.2.2.2.1
  subst hRR
  exact fun H locs ls hP hD hS hl9 => va_new hg.1 hg.2.1 hg.2.2.2.2.1 hin ty hty hg.2.2.2.1 (hg.2.2.2.2.1 _ hcl) (hg.2.2.2.2.1 _ hinst) (hg.2.2.2.2.1 _ hini) hg.2.2.2.2.2.1 hP hD hS hg.2.2.2.2.2.2.1 hc hfs hcells hslots hd (fun q H1 hP1 hD1 hS1 => k q H1 locs ls hP1 hD1 hS1 hl9)
theorem eT_cls {E : Ev} {U : State} {tys : List (ClassId × FieldType)} {cA : ClassId} {ty : FieldType} (hK : va_K E.1 vwCl (tys ++ [(cA, ty)]) U) : ArrOfT U cA ty ∧ va_RA U cA ty := hK.2 tys.length (cA, ty) (by simp)
theorem j_newB (hg : Ok E nL g l0 cc own Ts R0) {n : Int32} (N : Nat) (hA : Cond.arrayClass .byte ∈ Ts) (hn : n = nI N) (hN : N < 1000000) (hcells : cells + 1 ≤ R0.cells) (hslots : slots + N ≤ R0.slots) (hd : decode cc pc = .ok (.newarray .byte, 2)) (k : ∀ q : Nat, J E nL g (ws ++ [aB E q N (fun _ => 0)]) lv (cells + 1) (slots + N) (pc + 2) (.ref q :: st)) : J E nL g ws lv cells slots pc (.int n :: st) := by
  obtain ⟨p, l, e, R, s, m, args, below, meth, c, A, Q⟩ := g
  have hRR := hg.2.2.2.2.2.2.2.2.1
  subst hRR
  subst hn
  intro H locs ls hP hD hS hl9
  refine va_newa (atype := .byte) (ty := .byte) (a0 := (N, .inl (fun _ => 0))) hg.1 hg.2.1 (hg.2.2.2.2.1 _ hA) rfl hg.2.2.2.2.2.1 hP hD hS hg.2.2.2.2.2.2.1 (fun cA => rfl) (nI_pos (by omega)) (nI_clamp (by omega)) (by show N * 1 ≤ _; omega) hcells hslots hd (fun q cA H1 hK1 hP1 hD1 hS1 => ?_)
  have e1 : s.vm.findClass _ = some cA := (eT_cls hK1).2
  have e2 : s.vm.findClass _ = some E.2.1.1 := (hg.2.2.2.2.2.1.2 0 _ rfl).2
  have e3 : cA = E.2.1.1 := Option.some.inj (e1.symm.trans e2)
  subst e3
  exact k q H1 locs ls hP1 hD1 hS1 hl9
theorem j_newI (hg : Ok E nL g l0 cc own Ts R0) {n : Int32} (N : Nat) (hA : Cond.arrayClass .int ∈ Ts) (hn : n = nI N) (hN : N < 1000000) (hcells : cells + 1 ≤ R0.cells) (hslots : slots + N ≤ R0.slots) (hd : decode cc pc = .ok (.newarray .int, 2)) (k : ∀ q : Nat, J E nL g (ws ++ [aI E q N (fun _ => 0)]) lv (cells + 1) (slots + N) (pc + 2) (.ref q :: st)) : J E nL g ws lv cells slots pc (.int n :: st) := by
  obtain ⟨p, l, e, R, s, m, args, below, meth, c, A, Q⟩ := g
  have hRR := hg.2.2.2.2.2.2.2.2.1
  subst hRR
  subst hn
  intro H locs ls hP hD hS hl9
  refine va_newa (atype := .int) (ty := .int) (a0 := (N, .inl (fun _ => 0))) hg.1 hg.2.1 (hg.2.2.2.2.1 _ hA) rfl hg.2.2.2.2.2.1 hP hD hS hg.2.2.2.2.2.2.1 (fun cA => rfl) (nI_pos (by omega)) (nI_clamp (by omega)) (by show N * 4 ≤ _; omega) hcells hslots hd (fun q cA H1 hK1 hP1 hD1 hS1 => ?_)
  have e1 : s.vm.findClass _ = some cA := (eT_cls hK1).2
  have e2 : s.vm.findClass _ = some E.2.1.2.1 := (hg.2.2.2.2.2.1.2 1 _ rfl).2
  have e3 : cA = E.2.1.2.1 := Option.some.inj (e1.symm.trans e2)
  subst e3
  exact k q H1 locs ls hP1 hD1 hS1 hl9
theorem j_newL (hg : Ok E nL g l0 cc own Ts R0) {n : Int32} (N : Nat) (hA : Cond.arrayClass .long ∈ Ts) (hn : n = nI N) (hN : N < 1000000) (hcells : cells + 1 ≤ R0.cells) (hslots : slots + N ≤ R0.slots) (hd : decode cc pc = .ok (.newarray .long, 2)) (k : ∀ q : Nat, J E nL g (ws ++ [aL E q N (fun _ => 0)]) lv (cells + 1) (slots + N) (pc + 2) (.ref q :: st)) : J E nL g ws lv cells slots pc (.int n :: st) := by
  obtain ⟨p, l, e, R, s, m, args, below, meth, c, A, Q⟩ := g
  have hRR := hg.2.2.2.2.2.2.2.2.1
  subst hRR
  subst hn
  intro H locs ls hP hD hS hl9
  refine va_newa (atype := .long) (ty := .long) (a0 := (N, .inr (.inl (fun _ => 0)))) hg.1 hg.2.1 (hg.2.2.2.2.1 _ hA) rfl hg.2.2.2.2.2.1 hP hD hS hg.2.2.2.2.2.2.1 (fun cA => rfl) (nI_pos (by omega)) (nI_clamp (by omega)) (by show N * 8 ≤ _; omega) hcells hslots hd (fun q cA H1 hK1 hP1 hD1 hS1 => ?_)
  have e1 : s.vm.findClass _ = some cA := (eT_cls hK1).2
  have e2 : s.vm.findClass _ = some E.2.1.2.2 := (hg.2.2.2.2.2.1.2 2 _ rfl).2
  have e3 : cA = E.2.1.2.2 := Option.some.inj (e1.symm.trans e2)
  subst e3
  exact k q H1 locs ls hP1 hD1 hS1 hl9
theorem j_objInit (hg : Ok E nL g l0 cc own Ts R0) {a idx : Nat} (h1 : Cond.methodLink own idx Lib.objectInit ∈ Ts) (h2 : Cond.instanceMethod Lib.objectInit ∈ Ts) (h3 : Cond.code Lib.objectInit ⟨#[0xb1]⟩ 1 none ∈ Ts) (hd : decode cc pc = .ok (.invokespecial idx, 3)) (hfr : 1 ≤ R0.frames) (hlo : (st.map fun v => v.category).sum + 12 ≤ R0.locals) (k : J E nL g ws lv cells slots (pc + 3) st) : J E nL g ws lv cells slots pc (.ref a :: st) := by
  obtain ⟨p, l, e, R, s, m, args, below, meth, c, A, Q⟩ := g
  have hRR := hg.2.2.2.2.2.2.2.2.1
  subst hRR
  intro H locs ls hP hD hS hl9
  refine W.objInit hg.1 hg.2.1 hg.2.2.2.1 (hg.2.2.2.2.1 _ h1) (hg.2.2.2.2.1 _ h2) (hg.2.2.2.2.1 _ h3) rfl (by rw [hg.2.2.1]; exact hl9.1) rfl hd hfr (by show 2 * 0 + _ + 12 ≤ _; omega) ?_
  exact W.eq (g2 := F0 m (pc + 3) ls st) rfl (k H locs ls hP hD hS hl9)
theorem j_mmin (hg : Ok E nL g l0 cc own Ts R0) {index : Nat} {x y v : Int32} (h1 : Cond.methodLink own index Lib.Math.min.name ∈ Ts) (h2 : Cond.static Lib.Math.min.name ∈ Ts) (h3 : Cond.initialized "java/lang/Math" ∈ Ts) (h4 : Cond.code Lib.Math.min.name Lib.Math.min.code 2 (some .int) ∈ Ts) (hfr : 1 ≤ R0.frames) (hlo : (st.map fun v => v.category).sum + 13 ≤ R0.locals) (hc : cells ≤ R0.cells) (hs : slots ≤ R0.slots) (hv : (if y < x then y else x) = v) (hd : decode cc pc = .ok (.invokestatic index, 3)) (k : J E nL g ws lv cells slots (pc + 3) (.int v :: st)) : J E nL g ws lv cells slots pc (.int y :: .int x :: st) := by
  obtain ⟨p, l, e, R, s, m, args, below, meth, c, A, Q⟩ := g
  have hRR := hg.2.2.2.2.2.2.2.2.1
  subst hRR
  subst hv
  exact fun H locs ls hP hD hS hl9 => va_mmin hg.1 hg.2.1 (by rw [hg.2.2.1]; exact hl9.1.symm) hg.2.2.2.1 (hg.2.2.2.2.1 _ h1) (hg.2.2.2.2.1 _ h2) (hg.2.2.2.2.1 _ h3) (hg.2.2.2.2.1 _ h4) hfr hlo hc hs hd (k H locs ls hP hD hS hl9)
/-- System.arraycopy: the four words; the counts by numbers -/
def acW (Ts : List Cond) (own : String) (index : Nat) : Prop := Cond.methodLink own index arraycopyName ∈ Ts ∧ Cond.native arraycopyName ∈ Ts ∧ Cond.static arraycopyName ∈ Ts ∧ Cond.initialized "java/lang/System" ∈ Ts
theorem j_copyB (hg : Ok E nL g l0 cc own Ts R0) {index a0 a n0 n1 : Nat} {f h : Nat → Int32} {sp dp n : Int32} {ws' : va_W} (q0 q1 i j k0 : Nat) (hw4 : acW Ts own index) (ha0 : ws[q0]? = some (aB E a0 n0 f)) (ha1 : ws[q1]? = some (aB E a n1 h)) (hsp : sp = nI i) (hdp : dp = nI j) (hn : n = nI k0) (h4 : i + k0 ≤ n0) (h5 : j + k0 ≤ n1) (hn0 : n0 < 2147483648) (hn1 : n1 < 2147483648) (hfit : ∀ t, t < k0 → fits .byte (.int (f (i + t))) = true) (hfr : 1 ≤ R0.frames) (hlo : (st.map fun v => v.category).sum + (nativeFrameWords "java/lang/System" "arraycopy" 5 + 11) ≤ R0.locals) (hw : ws.set q1 (aB E a n1 (va_cpy f h i j k0)) = ws') (hd : decode cc pc = .ok (.invokestatic index, 3)) (k : J E nL g ws' lv cells slots (pc + 3) st) : J E nL g ws lv cells slots pc (.int n :: .int dp :: .ref a :: .int sp :: .ref a0 :: st) := by
  obtain ⟨p, l, e, R, s, m, args, below, meth, c, A, Q⟩ := g
  have hRR := hg.2.2.2.2.2.2.2.2.1
  subst hRR
  subst hw hsp hdp hn
  have e1 : (nI i).toNatClampNeg = i := nI_clamp (by omega)
  have e2 : (nI j).toNatClampNeg = j := nI_clamp (by omega)
  have e3 : (nI k0).toNatClampNeg = k0 := nI_clamp (by omega)
  exact fun H locs ls hP hD hS hl9 => va_copyi hg.1 hg.2.1 (by rw [hg.2.2.1]; exact hl9.1.symm) hg.2.2.2.1 (hg.2.2.2.2.1 _ hw4.1) (hg.2.2.2.2.1 _ hw4.2.1) (hg.2.2.2.2.1 _ hw4.2.2.1) (hg.2.2.2.2.1 _ hw4.2.2.2) hg.2.2.2.2.2.1 hP hD hS q0 q1 0 0 ha0 ha1 rfl rfl rfl (nI_pos (by omega)) (nI_pos (by omega)) (nI_pos (by omega)) (by rw [e1, e3]; exact h4) (by rw [e2, e3]; exact h5) (by rw [e1, e3]; exact hfit) hfr hlo hd (fun H1 locs1 hP1 hD1 hS1 => by rw [e1, e2, e3] at hP1 hD1; exact k H1 locs1 ls hP1 hD1 hS1 hl9)
theorem j_copyI (hg : Ok E nL g l0 cc own Ts R0) {index a0 a n0 n1 : Nat} {f h : Nat → Int32} {sp dp n : Int32} {ws' : va_W} (q0 q1 i j k0 : Nat) (hw4 : acW Ts own index) (ha0 : ws[q0]? = some (aI E a0 n0 f)) (ha1 : ws[q1]? = some (aI E a n1 h)) (hsp : sp = nI i) (hdp : dp = nI j) (hn : n = nI k0) (h4 : i + k0 ≤ n0) (h5 : j + k0 ≤ n1) (hn0 : n0 < 2147483648) (hn1 : n1 < 2147483648) (hfr : 1 ≤ R0.frames) (hlo : (st.map fun v => v.category).sum + (nativeFrameWords "java/lang/System" "arraycopy" 5 + 11) ≤ R0.locals) (hw : ws.set q1 (aI E a n1 (va_cpy f h i j k0)) = ws') (hd : decode cc pc = .ok (.invokestatic index, 3)) (k : J E nL g ws' lv cells slots (pc + 3) st) : J E nL g ws lv cells slots pc (.int n :: .int dp :: .ref a :: .int sp :: .ref a0 :: st) := by
  obtain ⟨p, l, e, R, s, m, args, below, meth, c, A, Q⟩ := g
  have hRR := hg.2.2.2.2.2.2.2.2.1
  subst hRR
  subst hw hsp hdp hn
  have e1 : (nI i).toNatClampNeg = i := nI_clamp (by omega)
  have e2 : (nI j).toNatClampNeg = j := nI_clamp (by omega)
  have e3 : (nI k0).toNatClampNeg = k0 := nI_clamp (by omega)
  exact fun H locs ls hP hD hS hl9 => va_copyi hg.1 hg.2.1 (by rw [hg.2.2.1]; exact hl9.1.symm) hg.2.2.2.1 (hg.2.2.2.2.1 _ hw4.1) (hg.2.2.2.2.1 _ hw4.2.1) (hg.2.2.2.2.1 _ hw4.2.2.1) (hg.2.2.2.2.1 _ hw4.2.2.2) hg.2.2.2.2.2.1 hP hD hS q0 q1 1 1 ha0 ha1 rfl rfl rfl (nI_pos (by omega)) (nI_pos (by omega)) (nI_pos (by omega)) (by rw [e1, e3]; exact h4) (by rw [e2, e3]; exact h5) (fun _ _ => rfl) hfr hlo hd (fun H1 locs1 hP1 hD1 hS1 => by rw [e1, e2, e3] at hP1 hD1; exact k H1 locs1 ls hP1 hD1 hS1 hl9)
theorem j_copyL (hg : Ok E nL g l0 cc own Ts R0) {index a0 a n0 n1 : Nat} {f h : Nat → Int64} {sp dp n : Int32} {ws' : va_W} (q0 q1 i j k0 : Nat) (hw4 : acW Ts own index) (ha0 : ws[q0]? = some (aL E a0 n0 f)) (ha1 : ws[q1]? = some (aL E a n1 h)) (hsp : sp = nI i) (hdp : dp = nI j) (hn : n = nI k0) (h4 : i + k0 ≤ n0) (h5 : j + k0 ≤ n1) (hn0 : n0 < 2147483648) (hn1 : n1 < 2147483648) (hfr : 1 ≤ R0.frames) (hlo : (st.map fun v => v.category).sum + (nativeFrameWords "java/lang/System" "arraycopy" 5 + 11) ≤ R0.locals) (hw : ws.set q1 (aL E a n1 (va_cpy f h i j k0)) = ws') (hd : decode cc pc = .ok (.invokestatic index, 3)) (k : J E nL g ws' lv cells slots (pc + 3) st) : J E nL g ws lv cells slots pc (.int n :: .int dp :: .ref a :: .int sp :: .ref a0 :: st) := by
  obtain ⟨p, l, e, R, s, m, args, below, meth, c, A, Q⟩ := g
  have hRR := hg.2.2.2.2.2.2.2.2.1
  subst hRR
  subst hw hsp hdp hn
  have e1 : (nI i).toNatClampNeg = i := nI_clamp (by omega)
  have e2 : (nI j).toNatClampNeg = j := nI_clamp (by omega)
  have e3 : (nI k0).toNatClampNeg = k0 := nI_clamp (by omega)
  exact fun H locs ls hP hD hS hl9 => va_copyl hg.1 hg.2.1 (by rw [hg.2.2.1]; exact hl9.1.symm) hg.2.2.2.1 (hg.2.2.2.2.1 _ hw4.1) (hg.2.2.2.2.1 _ hw4.2.1) (hg.2.2.2.2.1 _ hw4.2.2.1) (hg.2.2.2.2.1 _ hw4.2.2.2) hg.2.2.2.2.2.1 hP hD hS q0 q1 2 2 ha0 ha1 rfl rfl rfl (nI_pos (by omega)) (nI_pos (by omega)) (nI_pos (by omega)) (by rw [e1, e3]; exact h4) (by rw [e2, e3]; exact h5) (fun _ _ => rfl) hfr hlo hd (fun H1 locs1 hP1 hD1 hS1 => by rw [e1, e2, e3] at hP1 hD1; exact k H1 locs1 ls hP1 hD1 hS1 hl9)
-- returns
section RET
variable {w0 : va_W} {S : Type} {post : S → Prop} {r : S → Option Value} {w1 : S → va_W} {nm : String}
theorem j_iret {ret : FieldType} (hg : Ok E nL g l0 cc own Ts R0) (hR : Rt E g w0 S post r w1 R0 (some ret) nm) {v : Int32} (hnar : narrow ret (.int v) = .int v) (u : S) (hp : post u) (hr : r u = some (.int v)) (is : List Nat) (hw : is.map (fun i => ws[i]?) = (w1 u).map some) (hn : va_nd is = true) (hc : cells ≤ R0.cells) (hs : slots ≤ R0.slots) (hd : decode cc pc = .ok (.ireturn, 1)) : J E nL g ws lv cells slots pc [.int v] := by
  obtain ⟨p, l, e, R, s, m, args, below, meth, c, A, Q⟩ := g
  intro H locs ls hP hD hS hl9
  obtain ⟨rfl, rfl, hrt, -⟩ := hR
  have hlocks : meth.locks = false := hg.2.2.2.2.2.2.2.2.2.1
  refine W.widen hc hs ?_
  exact W.zret hg.1 hg.2.1 hrt hnar (fun t ht hW => ⟨⟨u, by rw [hr], hp, by rw [ht]; exact hP.sub is (fm_of_map hw), va_K.moved hW.alike hg.2.2.2.2.2.1, hD.sub is hn hw⟩, hS.F ht⟩) hS.2.2 hd
theorem j_lret (hg : Ok E nL g l0 cc own Ts R0) (hR : Rt E g w0 S post r w1 R0 (some .long) nm) {v : Int64} (u : S) (hp : post u) (hr : r u = some (.long v)) (is : List Nat) (hw : is.map (fun i => ws[i]?) = (w1 u).map some) (hn : va_nd is = true) (hc : cells ≤ R0.cells) (hs : slots ≤ R0.slots) (hd : decode cc pc = .ok (.lreturn, 1)) : J E nL g ws lv cells slots pc [.long v] := by
  obtain ⟨p, l, e, R, s, m, args, below, meth, c, A, Q⟩ := g
  intro H locs ls hP hD hS hl9
  obtain ⟨rfl, rfl, hrt, -⟩ := hR
  have hlocks : meth.locks = false := hg.2.2.2.2.2.2.2.2.2.1
  refine W.widen hc hs ?_
  exact W.lret hg.1 hg.2.1 hrt (fun t ht hW => ⟨⟨u, by rw [hr], hp, by rw [ht]; exact hP.sub is (fm_of_map hw), va_K.moved hW.alike hg.2.2.2.2.2.1, hD.sub is hn hw⟩, hS.F ht⟩) hS.2.2 hd
theorem j_vret (hg : Ok E nL g l0 cc own Ts R0) (hR : Rt E g w0 S post r w1 R0 none nm) (u : S) (hp : post u) (hr : r u = none) (is : List Nat) (hw : is.map (fun i => ws[i]?) = (w1 u).map some) (hn : va_nd is = true) (hc : cells ≤ R0.cells) (hs : slots ≤ R0.slots) (hd : decode cc pc = .ok (.return_, 1)) : J E nL g ws lv cells slots pc [] := by
  obtain ⟨p, l, e, R, s, m, args, below, meth, c, A, Q⟩ := g
  intro H locs ls hP hD hS hl9
  obtain ⟨rfl, rfl, hrt, -⟩ := hR
  have hlocks : meth.locks = false := hg.2.2.2.2.2.2.2.2.2.1
  refine W.widen hc hs ?_
  exact W.vret hg.1 hg.2.1 hrt (fun t ht hW => ⟨⟨u, by rw [hr], hp, by rw [ht]; exact hP.sub is (fm_of_map hw), va_K.moved hW.alike hg.2.2.2.2.2.1, hD.sub is hn hw⟩, hS.F ht⟩) hS.2.2 hd
theorem j_aret {rt : FieldType} (hg : Ok E nL g l0 cc own Ts R0) (hR : Rt E g w0 S post r w1 R0 (some rt) nm) (hrt2 : (∃ n, rt = .object n) ∨ ∃ t, rt = .array t) {a : Nat} (u : S) (hp : post u) (hr : r u = some (.ref a)) (is : List Nat) (hw : is.map (fun i => ws[i]?) = (w1 u).map some) (hn : va_nd is = true) (hc : cells ≤ R0.cells) (hs : slots ≤ R0.slots) (hd : decode cc pc = .ok (.areturn, 1)) : J E nL g ws lv cells slots pc [.ref a] := by
  obtain ⟨p, l, e, R, s, m, args, below, meth, c, A, Q⟩ := g
  intro H locs ls hP hD hS hl9
  obtain ⟨rfl, rfl, hrt, -⟩ := hR
  have hlocks : meth.locks = false := hg.2.2.2.2.2.2.2.2.2.1
  refine W.widen hc hs ?_
  exact W.aret hg.1 hg.2.1 hrt hrt2 (Or.inr ⟨a, rfl⟩) (fun t ht hW => ⟨⟨u, by rw [hr], hp, by rw [ht]; exact hP.sub is (fm_of_map hw), va_K.moved hW.alike hg.2.2.2.2.2.1, hD.sub is hn hw⟩, hS.F ht⟩) hS.2.2 hd
end RET
-- calls
section CALL
variable {y : MethodName} {Ws : List Cond} {rm : Room} {as : List Value} {w0 : va_W} {S : Type} {post : S → Prop} {r : S → Option Value} {w1 : S → va_W}
/-- what a callee finds: its cells cut out of ours -/
theorem pcM_at {p : Program} {l : Launch} {e : Env} {R : Room} {s : State} {m : MethodId} {args : Array Value} {below : List Frame} {meth : Method} {c : Code} {A : Nat → Prop} {Q : State → Prop} {H : Heap} {locs : List Loc}
    (hg : Ok E nL (p, l, e, R, s, m, args, below, meth, c, A, Q) l0 cc own Ts R0) (isC : List Nat) (hC : isC.map (fun i => ws[i]?) = w0.map some) (hnC : va_nd isC = true) (hP : va_P E.1 vwCl ws H) (hD : va_D A ws) (hS : va_S A s.heap H locs) :
    ∀ U : State, U.heap = H → s.WarmedH U.vm → PcM E as w0 H.size as.toArray U := by
  intro U hU hW
  have hF := va_free (wc := w0) hD hS hg.2.2.2.2.2.2.1 isC hC
  refine ⟨rfl, by rw [hU], by rw [hU]; exact hP.sub isC (fm_of_map hC), va_K.moved hW.alike hg.2.2.2.2.2.1, (hD.sub isC hnC hC).weaken (fun _ _ _ _ => trivial), ?_, hg.2.2.2.2.2.2.2.2.2.2.2.warm hW⟩
  rw [hU]
  exact ((hg.2.2.2.2.2.2.2.1.kept (fun a h1 h2 => hS.2.1 a h1 h2)).moved hW.alike).narrow hF
theorem j_run {st0 rest : List Value} {wr : va_W} (hg : Ok E nL g l0 cc own Ts R0) (isC isR : List Nat) (hC : isC.map (fun i => ws[i]?) = w0.map some) (hR : isR.map (fun i => ws[i]?) = wr.map some) (hn : va_nd isR = true) (hdis : ∀ i ∈ isR, i ∉ isC)
    (run : ∀ p l e R s m args below meth c A Q H locs ls, g = (p, l, e, R, s, m, args, below, meth, c, A, Q) → va_P E.1 vwCl ws H → va_D A ws → va_S A s.heap H locs → lv_has ls nL lv → va_Run p l e R s m args below meth c H locs cells slots rm.cells rm.slots (F0 m pc ls st0) rest (QcM E w0 H.size S post r w1 as.toArray) (va_A w0 H.size))
    (kk : ∀ u : S, post u → J E nL g (wr ++ w1 u) lv (cells + rm.cells) (slots + rm.slots) (pc + 3) ((r u).toList ++ rest)) : J E nL g ws lv cells slots pc st0 := by
  obtain ⟨p, l, e, R, s, m, args, below, meth, c, A, Q⟩ := g
  intro H locs ls hP hD hS hl T hT X
  obtain ⟨v, st₀, t, T', L, h0, X', hL, e1, e2, ⟨⟨u, hv, hp, hPu, hKu, hDu⟩, hz, hk⟩, stp⟩ := run p l e R s m args below meth c A Q H locs ls rfl hP hD hS hl T hT X
  have hv' : v = r u := Outcome.returned.inj hv
  subst hv'
  rw [h0] at hz hk
  have hF := va_free (wc := w0) hD hS hg.2.2.2.2.2.2.1 isC hC
  obtain ⟨hP1, hD1⟩ := va_join (wr := wr) (w1 := w1 u) (H1 := T'.heap) hP hD isC isR hC hR hn hdis (fun q h1 h2 => by rw [e1]; exact hk q h1 h2) hF (by rw [e1]; exact hPu) hDu
  obtain ⟨t2, a1, b1⟩ := kk u hp T'.heap (locs ++ L) ls hP1 hD1 ⟨Nat.le_trans hS.1 (by rw [e1]; exact hz), fun q h1 h2 => by rw [e1, hk q (Nat.lt_of_lt_of_le h1 hS.1) (fun z => h2 (hF q z))]; exact hS.2.1 q h1 h2, fun q hq => by
      rcases List.mem_append.mp hq with h | h
      · exact hS.2.2 q h
      · exact hF _ (hL q h)⟩ hl T' rfl X'
  exact ⟨t2, stp t2 a1, b1⟩
theorem j_callV {index maxL n : Nat} {bytes : ByteArray} {ret : Option FieldType} {Ws' : List Cond} {As rest : List Value} {st0 : List Value} {wr : va_W} (hg : Ok E nL g l0 cc own Ts R0) {C : String} {T : u_T} {N b ci : Nat} {fs : List Value} (q0 : Nat) (he : w0[q0]? = some (ob b ci fs)) (hc : vwCl[ci]? = some (C, T, N)) (hM : MC E l0 y Ws rm (.ref b :: As) w0 S post r w1) (hT : GoodIn Ts (wsV own index C y Ws)) (hw : Ws = Cond.code y bytes maxL ret :: Ws') (hdd : y.cls = C ∧ y.cls ≠ "java/lang/invoke/MethodHandle" ∧ y.cls ≠ "java/lang/invoke/VarHandle" ∧ (parseMethodDescriptor y.desc).map (fun d => d.parameters.length) = some n) (hR : rm.frames + 1 ≤ R0.frames ∧ 8 + (maxL + 11) + rm.locals ≤ R0.locals) (hn : As.length = n) (hst : st0 = As.reverse ++ .ref b :: rest) (hcat : (rest.map fun v => v.category).sum ≤ 8) (hf : cells + rm.cells ≤ R0.cells ∧ slots + rm.slots ≤ R0.slots) (isC isR : List Nat) (hC : isC.map (fun i => ws[i]?) = w0.map some) (hRR : isR.map (fun i => ws[i]?) = wr.map some) (hnC : va_nd isC = true) (hnR : va_nd isR = true) (hdis : ∀ i ∈ isR, i ∉ isC) (hd : decode cc pc = .ok (.invokevirtual index, 3)) (kk : ∀ u : S, post u → J E nL g (wr ++ w1 u) lv (cells + rm.cells) (slots + rm.slots) (pc + 3) ((r u).toList ++ rest)) : J E nL g ws lv cells slots pc st0 := by
  refine j_run (as := .ref b :: As) (rm := rm) hg isC isR hC hRR hnR hdis ?_ kk
  intro p l e R s m args below meth c A Q H locs ls hgg hP hD hS hl
  subst hgg
  have hR1 : R = R0 := hg.2.2.2.2.2.2.2.2.1
  have hL1 : l = l0 := hg.2.2.2.2.2.2.2.2.2.2.1
  subst hR1 hL1
  have hts : ∀ w ∈ Ts, w.before args s = true := hg.2.2.2.2.1
  exact va_runV (As := As) (rest := rest) ⟨hg.1, hg.2.1, hg.2.2.1, hg.2.2.2.1, hts⟩ (hM H.size) (cwV n hts hT hw rfl rfl hdd hR) ⟨pcM_blind, va_recv hg.2.2.2.2.2.1 (hP.sub isC (fm_of_map hC)) hc he, pcM_at hg isC hC hnC hP hD hS⟩ rfl hn hl.1 hst (by show 2 * 0 + _ ≤ 8; omega) hd hf
theorem j_callS {index maxL n : Nat} {bytes : ByteArray} {ret : Option FieldType} {Ws' : List Cond} {As rest : List Value} {st0 : List Value} {wr : va_W} (hg : Ok E nL g l0 cc own Ts R0) (hM : MC E l0 y Ws rm (As) w0 S post r w1) (hT : GoodIn Ts (wsS own index y Ws)) (hw : Ws = Cond.code y bytes maxL ret :: Ws') (hdd : y.cls = own ∧ y.cls ≠ "java/lang/invoke/MethodHandle" ∧ y.cls ≠ "java/lang/invoke/VarHandle" ∧ (parseMethodDescriptor y.desc).map (fun d => d.parameters.length) = some n) (hR : rm.frames + 1 ≤ R0.frames ∧ 8 + (maxL + 11) + rm.locals ≤ R0.locals) (hn : As.length = n) (hst : st0 = As.reverse ++ rest) (hcat : (rest.map fun v => v.category).sum ≤ 8) (hf : cells + rm.cells ≤ R0.cells ∧ slots + rm.slots ≤ R0.slots) (isC isR : List Nat) (hC : isC.map (fun i => ws[i]?) = w0.map some) (hRR : isR.map (fun i => ws[i]?) = wr.map some) (hnC : va_nd isC = true) (hnR : va_nd isR = true) (hdis : ∀ i ∈ isR, i ∉ isC) (hd : decode cc pc = .ok (.invokestatic index, 3)) (kk : ∀ u : S, post u → J E nL g (wr ++ w1 u) lv (cells + rm.cells) (slots + rm.slots) (pc + 3) ((r u).toList ++ rest)) : J E nL g ws lv cells slots pc st0 := by
  refine j_run (as := As) (rm := rm) hg isC isR hC hRR hnR hdis ?_ kk
  intro p l e R s m args below meth c A Q H locs ls hgg hP hD hS hl
  subst hgg
  have hR1 : R = R0 := hg.2.2.2.2.2.2.2.2.1
  have hL1 : l = l0 := hg.2.2.2.2.2.2.2.2.2.2.1
  subst hR1 hL1
  have hts : ∀ w ∈ Ts, w.before args s = true := hg.2.2.2.2.1
  exact va_runS (As := As) (rest := rest) ⟨hg.1, hg.2.1, hg.2.2.1, hg.2.2.2.1, hts⟩ (hM H.size) (cwS n hts hT hw rfl rfl hdd hR) ⟨pcM_blind, pcM_at hg isC hC hnC hP hD hS⟩ rfl hn hl.1 hst (by show 2 * 0 + _ ≤ 8; omega) hd hf
theorem j_callX {index maxL n : Nat} {bytes : ByteArray} {ret : Option FieldType} {Ws' : List Cond} {As rest : List Value} {st0 : List Value} {wr : va_W} (hg : Ok E nL g l0 cc own Ts R0) (hM : MC E l0 y Ws rm (As) w0 S post r w1) (hT : GoodIn Ts (va_wsS own index y Ws)) (hw : Ws = Cond.code y bytes maxL ret :: Ws') (hdd : y.cls ≠ "java/lang/invoke/MethodHandle" ∧ y.cls ≠ "java/lang/invoke/VarHandle" ∧ (parseMethodDescriptor y.desc).map (fun d => d.parameters.length) = some n) (hR : rm.frames + 1 ≤ R0.frames ∧ 8 + (maxL + 11) + rm.locals ≤ R0.locals) (hn : As.length = n) (hst : st0 = As.reverse ++ rest) (hcat : (rest.map fun v => v.category).sum ≤ 8) (hf : cells + rm.cells ≤ R0.cells ∧ slots + rm.slots ≤ R0.slots) (isC isR : List Nat) (hC : isC.map (fun i => ws[i]?) = w0.map some) (hRR : isR.map (fun i => ws[i]?) = wr.map some) (hnC : va_nd isC = true) (hnR : va_nd isR = true) (hdis : ∀ i ∈ isR, i ∉ isC) (hd : decode cc pc = .ok (.invokestatic index, 3)) (kk : ∀ u : S, post u → J E nL g (wr ++ w1 u) lv (cells + rm.cells) (slots + rm.slots) (pc + 3) ((r u).toList ++ rest)) : J E nL g ws lv cells slots pc st0 := by
  refine j_run (as := As) (rm := rm) hg isC isR hC hRR hnR hdis ?_ kk
  intro p l e R s m args below meth c A Q H locs ls hgg hP hD hS hl
  subst hgg
  have hR1 : R = R0 := hg.2.2.2.2.2.2.2.2.1
  have hL1 : l = l0 := hg.2.2.2.2.2.2.2.2.2.2.1
  subst hR1 hL1
  have hts : ∀ w ∈ Ts, w.before args s = true := hg.2.2.2.2.1
  exact va_runS (As := As) (rest := rest) ⟨hg.1, hg.2.1, hg.2.2.1, hg.2.2.2.1, hts⟩ (hM H.size) (va_cwS n hts hT hw rfl rfl hdd hR) ⟨pcM_blind, pcM_at hg isC hC hnC hP hD hS⟩ rfl hn hl.1 hst (by show 2 * 0 + _ ≤ 8; omega) hd hf
theorem j_callI {index maxL n : Nat} {bytes : ByteArray} {ret : Option FieldType} {Ws' : List Cond} {As rest : List Value} {st0 : List Value} {wr : va_W} (hg : Ok E nL g l0 cc own Ts R0) {b : Nat} (hM : MC E l0 y Ws rm (.ref b :: As) w0 S post r w1) (hG : GoodIn Ts Ws) (hw : Ws = Cond.code y bytes maxL none :: Ws') (hini : Cond.initialized y.cls ∈ Ts) (hlk : Cond.methodLink own index y ∈ Ts) (hinm : Cond.instanceMethod y ∈ Ts) (hy1 : y.name = "<init>") (hdd : y.cls ≠ "java/lang/invoke/MethodHandle" ∧ y.cls ≠ "java/lang/invoke/VarHandle" ∧ (parseMethodDescriptor y.desc).map (fun d => d.parameters.length) = some n) (hR : rm.frames + 1 ≤ R0.frames ∧ 8 + (maxL + 11) + rm.locals ≤ R0.locals) (hn : As.length = n) (hst : st0 = As.reverse ++ .ref b :: rest) (hcat : (rest.map fun v => v.category).sum ≤ 8) (hf : cells + rm.cells ≤ R0.cells ∧ slots + rm.slots ≤ R0.slots) (isC isR : List Nat) (hC : isC.map (fun i => ws[i]?) = w0.map some) (hRR : isR.map (fun i => ws[i]?) = wr.map some) (hnC : va_nd isC = true) (hnR : va_nd isR = true) (hdis : ∀ i ∈ isR, i ∉ isC) (hd : decode cc pc = .ok (.invokespecial index, 3)) (kk : ∀ u : S, post u → J E nL g (wr ++ w1 u) lv (cells + rm.cells) (slots + rm.slots) (pc + 3) ((r u).toList ++ rest)) : J E nL g ws lv cells slots pc st0 := by
  refine j_run (as := .ref b :: As) (rm := rm) hg isC isR hC hRR hnR hdis ?_ kk
  intro p l e R s m args below meth c A Q H locs ls hgg hP hD hS hl
  subst hgg
  have hR1 : R = R0 := hg.2.2.2.2.2.2.2.2.1
  have hL1 : l = l0 := hg.2.2.2.2.2.2.2.2.2.2.1
  subst hR1 hL1
  have hts : ∀ w ∈ Ts, w.before args s = true := hg.2.2.2.2.1
  exact va_runI (As := As) (rest := rest) ⟨hg.1, hg.2.1, hg.2.2.1, hg.2.2.2.1, hts⟩ (hM H.size) (cwI n hts hG hw rfl rfl (hts _ hini) (hts _ hlk) (hts _ hinm) hy1 hdd hR) ⟨pcM_blind, pcM_at hg isC hC hnC hP hD hS⟩ rfl hn hl.1 hst (by show 2 * 0 + _ ≤ 8; omega) hd hf
theorem j_callSN {index maxL n : Nat} {bytes : ByteArray} {ret : Option FieldType} {Ws' : List Cond} {As rest : List Value} {st0 : List Value} {wr : va_W} (hg : Ok E nL g l0 cc own Ts R0) (hM : MC E l0 y Ws rm (As) w0 S post r w1) {host : String} (hG : GoodIn Ts Ws) (hw : Ws = Cond.code y bytes maxL ret :: Ws') (hini : Cond.initialized y.cls ∈ Ts) (hlk : (own, index, y, host) ∈ nW) (hsta : Cond.static y ∈ Ts) (hdd : y.cls ≠ "java/lang/invoke/MethodHandle" ∧ y.cls ≠ "java/lang/invoke/VarHandle" ∧ (parseMethodDescriptor y.desc).map (fun d => d.parameters.length) = some n) (hR : rm.frames + 1 ≤ R0.frames ∧ 8 + (maxL + 11) + rm.locals ≤ R0.locals) (hn : As.length = n) (hst : st0 = As.reverse ++ rest) (hcat : (rest.map fun v => v.category).sum ≤ 8) (hf : cells + rm.cells ≤ R0.cells ∧ slots + rm.slots ≤ R0.slots) (isC isR : List Nat) (hC : isC.map (fun i => ws[i]?) = w0.map some) (hRR : isR.map (fun i => ws[i]?) = wr.map some) (hnC : va_nd isC = true) (hnR : va_nd isR = true) (hdis : ∀ i ∈ isR, i ∉ isC) (hd : decode cc pc = .ok (.invokestatic index, 3)) (kk : ∀ u : S, post u → J E nL g (wr ++ w1 u) lv (cells + rm.cells) (slots + rm.slots) (pc + 3) ((r u).toList ++ rest)) : J E nL g ws lv cells slots pc st0 := by
  refine j_run (as := As) (rm := rm) hg isC isR hC hRR hnR hdis ?_ kk
  intro p l e R s m args below meth c A Q H locs ls hgg hP hD hS hl
  subst hgg
  have hR1 : R = R0 := hg.2.2.2.2.2.2.2.2.1
  have hL1 : l = l0 := hg.2.2.2.2.2.2.2.2.2.2.1
  subst hR1 hL1
  have hts : ∀ w ∈ Ts, w.before args s = true := hg.2.2.2.2.1
  exact va_runSN (As := As) (rest := rest) ⟨hg.1, hg.2.1, hg.2.2.1, hg.2.2.2.1, hts⟩ (hM H.size) (⟨va_cnB n hts hG hw rfl rfl (hg.2.2.2.2.2.2.2.2.2.2.2 _ hlk) (hts _ hini) hdd hR, hts _ hsta, trivial⟩) ⟨pcM_blind, pcM_at hg isC hC hnC hP hD hS⟩ rfl hn hl.1 hst (by show 2 * 0 + _ ≤ 8; omega) hd hf
theorem j_callVN {index maxL n : Nat} {bytes : ByteArray} {ret : Option FieldType} {Ws' : List Cond} {As rest : List Value} {st0 : List Value} {wr : va_W} (hg : Ok E nL g l0 cc own Ts R0) {C : String} {T : u_T} {N b ci : Nat} {fs : List Value} (q0 : Nat) (he : w0[q0]? = some (ob b ci fs)) (hc : vwCl[ci]? = some (C, T, N)) (hM : MC E l0 y Ws rm (.ref b :: As) w0 S post r w1) {host : String} (hG : GoodIn Ts Ws) (hw : Ws = Cond.code y bytes maxL ret :: Ws') (hini : Cond.initialized y.cls ∈ Ts) (hlk : (own, index, y, host) ∈ nW) (hinm : Cond.instanceMethod y ∈ Ts) (hsel : Cond.selects C y y ∈ Ts) (hdd : y.cls ≠ "java/lang/invoke/MethodHandle" ∧ y.cls ≠ "java/lang/invoke/VarHandle" ∧ (parseMethodDescriptor y.desc).map (fun d => d.parameters.length) = some n) (hR : rm.frames + 1 ≤ R0.frames ∧ 8 + (maxL + 11) + rm.locals ≤ R0.locals) (hn : As.length = n) (hst : st0 = As.reverse ++ .ref b :: rest) (hcat : (rest.map fun v => v.category).sum ≤ 8) (hf : cells + rm.cells ≤ R0.cells ∧ slots + rm.slots ≤ R0.slots) (isC isR : List Nat) (hC : isC.map (fun i => ws[i]?) = w0.map some) (hRR : isR.map (fun i => ws[i]?) = wr.map some) (hnC : va_nd isC = true) (hnR : va_nd isR = true) (hdis : ∀ i ∈ isR, i ∉ isC) (hd : decode cc pc = .ok (.invokevirtual index, 3)) (kk : ∀ u : S, post u → J E nL g (wr ++ w1 u) lv (cells + rm.cells) (slots + rm.slots) (pc + 3) ((r u).toList ++ rest)) : J E nL g ws lv cells slots pc st0 := by
  refine j_run (as := .ref b :: As) (rm := rm) hg isC isR hC hRR hnR hdis ?_ kk
  intro p l e R s m args below meth c A Q H locs ls hgg hP hD hS hl
  subst hgg
  have hR1 : R = R0 := hg.2.2.2.2.2.2.2.2.1
  have hL1 : l = l0 := hg.2.2.2.2.2.2.2.2.2.2.1
  subst hR1 hL1
  have hts : ∀ w ∈ Ts, w.before args s = true := hg.2.2.2.2.1
  exact va_runVN (As := As) (rest := rest) ⟨hg.1, hg.2.1, hg.2.2.1, hg.2.2.2.1, hts⟩ (hM H.size) (⟨va_cnB n hts hG hw rfl rfl (hg.2.2.2.2.2.2.2.2.2.2.2 _ hlk) (hts _ hini) hdd hR, hts _ hinm, hts _ hsel⟩) ⟨pcM_blind, va_recv hg.2.2.2.2.2.1 (hP.sub isC (fm_of_map hC)) hc he, pcM_at hg isC hC hnC hP hD hS⟩ rfl hn hl.1 hst (by show 2 * 0 + _ ≤ 8; omega) hd hf
theorem j_callIN {index maxL n : Nat} {bytes : ByteArray} {ret : Option FieldType} {Ws' : List Cond} {As rest : List Value} {st0 : List Value} {wr : va_W} (hg : Ok E nL g l0 cc own Ts R0) {b : Nat} (hM : MC E l0 y Ws rm (.ref b :: As) w0 S post r w1) {host : String} (hG : GoodIn Ts Ws) (hw : Ws = Cond.code y bytes maxL none :: Ws') (hini : Cond.initialized y.cls ∈ Ts) (hlk : (own, index, y, host) ∈ nW) (hy1 : y.name = "<init>") (hinm : Cond.instanceMethod y ∈ Ts) (hdd : y.cls ≠ "java/lang/invoke/MethodHandle" ∧ y.cls ≠ "java/lang/invoke/VarHandle" ∧ (parseMethodDescriptor y.desc).map (fun d => d.parameters.length) = some n) (hR : rm.frames + 1 ≤ R0.frames ∧ 8 + (maxL + 11) + rm.locals ≤ R0.locals) (hn : As.length = n) (hst : st0 = As.reverse ++ .ref b :: rest) (hcat : (rest.map fun v => v.category).sum ≤ 8) (hf : cells + rm.cells ≤ R0.cells ∧ slots + rm.slots ≤ R0.slots) (isC isR : List Nat) (hC : isC.map (fun i => ws[i]?) = w0.map some) (hRR : isR.map (fun i => ws[i]?) = wr.map some) (hnC : va_nd isC = true) (hnR : va_nd isR = true) (hdis : ∀ i ∈ isR, i ∉ isC) (hd : decode cc pc = .ok (.invokespecial index, 3)) (kk : ∀ u : S, post u → J E nL g (wr ++ w1 u) lv (cells + rm.cells) (slots + rm.slots) (pc + 3) ((r u).toList ++ rest)) : J E nL g ws lv cells slots pc st0 := by
  refine j_run (as := .ref b :: As) (rm := rm) hg isC isR hC hRR hnR hdis ?_ kk
  intro p l e R s m args below meth c A Q H locs ls hgg hP hD hS hl
  subst hgg
  have hR1 : R = R0 := hg.2.2.2.2.2.2.2.2.1
  have hL1 : l = l0 := hg.2.2.2.2.2.2.2.2.2.2.1
  subst hR1 hL1
  have hts : ∀ w ∈ Ts, w.before args s = true := hg.2.2.2.2.1
  exact va_runIN (As := As) (rest := rest) ⟨hg.1, hg.2.1, hg.2.2.1, hg.2.2.2.1, hts⟩ (hM H.size) (⟨va_cnB n hts hG hw rfl rfl (hg.2.2.2.2.2.2.2.2.2.2.2 _ hlk) (hts _ hini) hdd hR, hy1, hts _ hinm⟩) ⟨pcM_blind, pcM_at hg isC hC hnC hP hD hS⟩ rfl hn hl.1 hst (by show 2 * 0 + _ ≤ 8; omega) hd hf
end CALL
end JR
end
section
/-! What the class's methods do to rows and numbers, as functions. -/
def shl (x y : Int32) : Int32 := x <<< (y &&& 31)
def shr (x y : Int32) : Int32 := x >>> (y &&& 31)
def ushr (x y : Int32) : Int32 := (x.toUInt32 >>> (y.toUInt32 &&& Int32.toUInt32 31)).toInt32
def lshl (x : Int64) (y : Int32) : Int64 := x <<< (y.toInt64 &&& 63)
def lshr (x : Int64) (y : Int32) : Int64 := x >>> (y.toInt64 &&& 63)
def lushr (x : Int64) (y : Int32) : Int64 := (x.toUInt64 >>> (y.toInt64.toUInt64 &&& Int64.toUInt64 63)).toInt64
def sB (x : Int32) : Int32 := x.toInt8.toInt32
def sC (x : Int32) : Int32 := (x.toUInt32 % 65536).toInt32
theorem sB_nar (x : Int32) : vp_nar .byte (sB x) = sB x := pk_vb x
theorem sB_fit (x : Int32) : fits .byte (.int (sB x)) = true := pk_fb x
theorem nI_dec (a k : Nat) (h : k ≤ a) : nI a + Int32.ofInt (-(k : Int)) = nI (a - k) := by
  rw [← pk_sub h, Int32.sub_eq_add_neg]
  congr 1
  show Int32.ofInt (-(k : Int)) = -Int32.ofNat k
  rw [Int32.ofInt_neg]
  rfl
/-- a row's bytes: each is a byte's number -/
def Byt (f : Nat → Int32) : Prop := ∀ j, fits .byte (.int (f j)) = true
theorem Byt.up {f : Nat → Int32} {k : Nat} {x : Int32} (h : Byt f) (hx : fits .byte (.int x) = true) : Byt (upd f k x) := by
  intro j
  unfold upd
  split
  · exact hx
  · exact h j
theorem Byt.cpy {f h : Nat → Int32} {i j k : Nat} (hf : Byt f) (hh : Byt h) : Byt (va_cpy f h i j k) := by
  intro t
  unfold va_cpy
  split
  · exact hf _
  · exact hh _
theorem Byt.zero : Byt (fun _ => 0) := fun _ => rfl
-- bytes to and from words
def wh (f : Nat → Int32) (k : Nat) (v : Int32) : Nat → Int32 := upd (upd (upd (upd f k (sB (ushr v 24))) (k + 1) (sB (ushr v 16))) (k + 2) (sB (ushr v 8))) (k + 3) (sB v)
def wl (f : Nat → Int32) (k : Nat) (v : Int32) : Nat → Int32 := upd (upd (upd (upd f k (sB v)) (k + 1) (sB (ushr v 8))) (k + 2) (sB (ushr v 16))) (k + 3) (sB (ushr v 24))
def rh (f : Nat → Int32) (k : Nat) : Int32 := shl (f k &&& 255) 24 ||| shl (f (k + 1) &&& 255) 16 ||| shl (f (k + 2) &&& 255) 8 ||| (f (k + 3) &&& 255)
def rl (f : Nat → Int32) (k : Nat) : Int32 := (f k &&& 255) ||| shl (f (k + 1) &&& 255) 8 ||| shl (f (k + 2) &&& 255) 16 ||| shl (f (k + 3) &&& 255) 24
def tl (v b : Int32) : Int32 := shl v b ||| ushr v (32 - b)
def tr (v b : Int32) : Int32 := ushr v b ||| shl v (32 - b)
theorem Byt.wh {f : Nat → Int32} {k : Nat} {v : Int32} (h : Byt f) : Byt (wh f k v) := (((h.up (sB_fit _)).up (sB_fit _)).up (sB_fit _)).up (sB_fit _)
theorem Byt.wl {f : Nat → Int32} {k : Nat} {v : Int32} (h : Byt f) : Byt (wl f k v) := (((h.up (sB_fit _)).up (sB_fit _)).up (sB_fit _)).up (sB_fit _)
-- ChaCha20
def qa (f : Nat → Int32) (a b : Nat) : Nat → Int32 := upd f a (f a + f b)
def qx (f : Nat → Int32) (d a : Nat) (r : Int32) : Nat → Int32 := upd f d (tl (f d ^^^ f a) r)
def qr (f : Nat → Int32) (a b c d : Nat) : Nat → Int32 := qx (qa (qx (qa (qx (qa (qx (qa f a b) d a 16) c d) b c 12) a b) d a 8) c d) b c 7
def qcol (f : Nat → Int32) : Nat → Int32 := qr (qr (qr (qr f 0 4 8 12) 1 5 9 13) 2 6 10 14) 3 7 11 15
def qdia (f : Nat → Int32) : Nat → Int32 := qr (qr (qr (qr f 0 5 10 15) 1 6 11 12) 2 7 8 13) 3 4 9 14
def qrounds (f : Nat → Int32) : Nat → Nat → Int32
  | 0 => f
  | n + 1 => qdia (qcol (qrounds f n))
def lay0 (f : Nat → Int32) : Nat → Int32 := upd (upd (upd (upd f 0 1634760805) 1 857760878) 2 2036477234) 3 1797285236
def layk (key f : Nat → Int32) : Nat → Nat → Int32
  | 0 => f
  | i + 1 => upd (layk key f i) (4 + i) (rl key (4 * i))
def layn (non f : Nat → Int32) : Nat → Nat → Int32
  | 0 => f
  | i + 1 => upd (layn non f i) (13 + i) (rl non (4 * i))
def layF (f key non : Nat → Int32) (ctr : Int32) : Nat → Int32 := layn non (upd (layk key (lay0 f) 8) 12 ctr) 3
def outF (row mixed first : Nat → Int32) : Nat → Nat → Int32
  | 0 => row
  | i + 1 => wl (outF row mixed first i) (4 * i) (mixed i + first i)
def mixF (f m fk fn : Nat → Int32) (ctr : Int32) : Nat → Int32 := qrounds (va_cpy (layF f fk fn ctr) m 0 0 16) 10
def fillF (row f m fk fn : Nat → Int32) (ctr : Int32) : Nat → Int32 := outF row (mixF f m fk fn ctr) (layF f fk fn ctr) 16
end
