-- ===== PART A: goes FIRST, ahead of the names: the tables' words, and 'selects' of the private methods out of them =====
/-- a private method of a class that the tables say can be made, by its rows of tables_1 -/
def lw_okq (q : MethodName × Nat) : Prop := (q.1.cls ≠ "java/lang/invoke/MethodHandle" ∧ q.1.cls ≠ "java/lang/invoke/VarHandle") ∧ Cond.instantiable q.1.cls q.2 ∈ tables_1 ∧ Cond.privateMethod q.1 ∈ tables_1 ∧ Cond.instanceMethod q.1 ∈ tables_1
theorem lw_p0 : lw_okq (⟨"StreamSeal", "tapeReaches", "(I)Z"⟩, 12) := ⟨⟨by decide +kernel, by decide +kernel⟩, (List.mem_append_left _ (List.mem_of_getElem? (l := tables_1_1) (i := 10) rfl)), (List.mem_append_left _ (List.mem_of_getElem? (l := tables_1_1) (i := 132) rfl)), (List.mem_append_left _ (List.mem_of_getElem? (l := tables_1_1) (i := 133) rfl))⟩
theorem lw_p1 : lw_okq (⟨"StreamSeal$ChaCha20", "lay", "([B[BI)V"⟩, 2) := ⟨⟨by decide +kernel, by decide +kernel⟩, (List.mem_append_left _ (List.mem_of_getElem? (l := tables_1_1) (i := 18) rfl)), (List.mem_append_left _ (List.mem_of_getElem? (l := tables_1_1) (i := 159) rfl)), (List.mem_append_left _ (List.mem_of_getElem? (l := tables_1_1) (i := 160) rfl))⟩
theorem lw_p2 : lw_okq (⟨"StreamSeal$ChaCha20", "mixColumns", "()V"⟩, 2) := ⟨⟨by decide +kernel, by decide +kernel⟩, (List.mem_append_left _ (List.mem_of_getElem? (l := tables_1_1) (i := 18) rfl)), (List.mem_append_left _ (List.mem_of_getElem? (l := tables_1_1) (i := 171) rfl)), (List.mem_append_left _ (List.mem_of_getElem? (l := tables_1_1) (i := 172) rfl))⟩
theorem lw_p3 : lw_okq (⟨"StreamSeal$ChaCha20", "mixQuarter", "(IIII)V"⟩, 2) := ⟨⟨by decide +kernel, by decide +kernel⟩, (List.mem_append_left _ (List.mem_of_getElem? (l := tables_1_1) (i := 18) rfl)), (List.mem_append_left _ (List.mem_of_getElem? (l := tables_1_1) (i := 175) rfl)), (List.mem_append_left _ (List.mem_of_getElem? (l := tables_1_1) (i := 176) rfl))⟩
theorem lw_p4 : lw_okq (⟨"StreamSeal$ChaCha20", "mixDiagonals", "()V"⟩, 2) := ⟨⟨by decide +kernel, by decide +kernel⟩, (List.mem_append_left _ (List.mem_of_getElem? (l := tables_1_1) (i := 18) rfl)), (List.mem_append_left _ (List.mem_of_getElem? (l := tables_1_1) (i := 182) rfl)), (List.mem_append_left _ (List.mem_of_getElem? (l := tables_1_1) (i := 183) rfl))⟩
theorem lw_p5 : lw_okq (⟨"StreamSeal$Poly1305", "clampBlock", "()V"⟩, 6) := ⟨⟨by decide +kernel, by decide +kernel⟩, (List.mem_append_left _ (List.mem_of_getElem? (l := tables_1_1) (i := 33) rfl)), (List.mem_append_left _ (List.mem_of_getElem? (l := tables_1_1) (i := 198) rfl)), (List.mem_append_left _ (List.mem_of_getElem? (l := tables_1_1) (i := 199) rfl))⟩
theorem lw_p6 : lw_okq (⟨"StreamSeal$Poly1305", "blockPart", "(I)J"⟩, 6) := ⟨⟨by decide +kernel, by decide +kernel⟩, (List.mem_append_left _ (List.mem_of_getElem? (l := tables_1_1) (i := 33) rfl)), (List.mem_append_left _ (List.mem_of_getElem? (l := tables_1_1) (i := 202) rfl)), (List.mem_append_left _ (List.mem_of_getElem? (l := tables_1_1) (i := 203) rfl))⟩
theorem lw_p7 : lw_okq (⟨"StreamSeal$Poly1305", "addBlock", "([BIII)V"⟩, 6) := ⟨⟨by decide +kernel, by decide +kernel⟩, (List.mem_append_left _ (List.mem_of_getElem? (l := tables_1_1) (i := 33) rfl)), (List.mem_append_left _ (List.mem_of_getElem? (l := tables_1_1) (i := 216) rfl)), (List.mem_append_left _ (List.mem_of_getElem? (l := tables_1_1) (i := 217) rfl))⟩
theorem lw_p8 : lw_okq (⟨"StreamSeal$Poly1305", "multiply", "()V"⟩, 6) := ⟨⟨by decide +kernel, by decide +kernel⟩, (List.mem_append_left _ (List.mem_of_getElem? (l := tables_1_1) (i := 33) rfl)), (List.mem_append_left _ (List.mem_of_getElem? (l := tables_1_1) (i := 223) rfl)), (List.mem_append_left _ (List.mem_of_getElem? (l := tables_1_1) (i := 224) rfl))⟩
theorem lw_p9 : lw_okq (⟨"StreamSeal$Poly1305", "carry", "()V"⟩, 6) := ⟨⟨by decide +kernel, by decide +kernel⟩, (List.mem_append_left _ (List.mem_of_getElem? (l := tables_1_1) (i := 33) rfl)), (List.mem_append_left _ (List.mem_of_getElem? (l := tables_1_1) (i := 228) rfl)), (List.mem_append_left _ (List.mem_of_getElem? (l := tables_1_1) (i := 229) rfl))⟩
theorem lw_p10 : lw_okq (⟨"StreamSeal$Poly1305", "takePrimeOff", "()V"⟩, 6) := ⟨⟨by decide +kernel, by decide +kernel⟩, (List.mem_append_left _ (List.mem_of_getElem? (l := tables_1_1) (i := 33) rfl)), (List.mem_append_left _ (List.mem_of_getElem? (l := tables_1_1) (i := 236) rfl)), (List.mem_append_left _ (List.mem_of_getElem? (l := tables_1_1) (i := 237) rfl))⟩
theorem lw_p11 : lw_okq (⟨"StreamSeal", "streamTapeToOut", "(II)V"⟩, 12) := ⟨⟨by decide +kernel, by decide +kernel⟩, (List.mem_append_left _ (List.mem_of_getElem? (l := tables_1_1) (i := 10) rfl)), (List.mem_append_right _ (List.mem_append_left _ (List.mem_of_getElem? (l := tables_1_2) (i := 5) rfl))), (List.mem_append_right _ (List.mem_append_left _ (List.mem_of_getElem? (l := tables_1_2) (i := 6) rfl)))⟩
theorem lw_p12 : lw_okq (⟨"StreamSeal", "sumSealed", "(I[BII)V"⟩, 12) := ⟨⟨by decide +kernel, by decide +kernel⟩, (List.mem_append_left _ (List.mem_of_getElem? (l := tables_1_1) (i := 10) rfl)), (List.mem_append_right _ (List.mem_append_left _ (List.mem_of_getElem? (l := tables_1_2) (i := 10) rfl))), (List.mem_append_right _ (List.mem_append_left _ (List.mem_of_getElem? (l := tables_1_2) (i := 11) rfl)))⟩
theorem lw_p13 : lw_okq (⟨"StreamSeal", "sumStandsAt", "(I)Z"⟩, 12) := ⟨⟨by decide +kernel, by decide +kernel⟩, (List.mem_append_left _ (List.mem_of_getElem? (l := tables_1_1) (i := 10) rfl)), (List.mem_append_right _ (List.mem_append_left _ (List.mem_of_getElem? (l := tables_1_2) (i := 23) rfl))), (List.mem_append_right _ (List.mem_append_left _ (List.mem_of_getElem? (l := tables_1_2) (i := 24) rfl)))⟩
theorem lw_p14 : lw_okq (⟨"StreamSeal$Sha256", "addByte", "(B)V"⟩, 6) := ⟨⟨by decide +kernel, by decide +kernel⟩, (List.mem_append_left _ (List.mem_of_getElem? (l := tables_1_1) (i := 59) rfl)), (List.mem_append_right _ (List.mem_append_left _ (List.mem_of_getElem? (l := tables_1_2) (i := 42) rfl))), (List.mem_append_right _ (List.mem_append_left _ (List.mem_of_getElem? (l := tables_1_2) (i := 43) rfl)))⟩
theorem lw_p15 : lw_okq (⟨"StreamSeal$Sha256", "spreadBlock", "()V"⟩, 6) := ⟨⟨by decide +kernel, by decide +kernel⟩, (List.mem_append_left _ (List.mem_of_getElem? (l := tables_1_1) (i := 59) rfl)), (List.mem_append_right _ (List.mem_append_left _ (List.mem_of_getElem? (l := tables_1_2) (i := 46) rfl))), (List.mem_append_right _ (List.mem_append_left _ (List.mem_of_getElem? (l := tables_1_2) (i := 47) rfl)))⟩
def lw_privs_1 : List (MethodName × Nat) := [(⟨"StreamSeal", "tapeReaches", "(I)Z"⟩, 12), (⟨"StreamSeal$ChaCha20", "lay", "([B[BI)V"⟩, 2), (⟨"StreamSeal$ChaCha20", "mixColumns", "()V"⟩, 2), (⟨"StreamSeal$ChaCha20", "mixQuarter", "(IIII)V"⟩, 2), (⟨"StreamSeal$ChaCha20", "mixDiagonals", "()V"⟩, 2), (⟨"StreamSeal$Poly1305", "clampBlock", "()V"⟩, 6), (⟨"StreamSeal$Poly1305", "blockPart", "(I)J"⟩, 6), (⟨"StreamSeal$Poly1305", "addBlock", "([BIII)V"⟩, 6), (⟨"StreamSeal$Poly1305", "multiply", "()V"⟩, 6), (⟨"StreamSeal$Poly1305", "carry", "()V"⟩, 6), (⟨"StreamSeal$Poly1305", "takePrimeOff", "()V"⟩, 6), (⟨"StreamSeal", "streamTapeToOut", "(II)V"⟩, 12), (⟨"StreamSeal", "sumSealed", "(I[BII)V"⟩, 12), (⟨"StreamSeal", "sumStandsAt", "(I)Z"⟩, 12), (⟨"StreamSeal$Sha256", "addByte", "(B)V"⟩, 6), (⟨"StreamSeal$Sha256", "spreadBlock", "()V"⟩, 6)]
theorem lw_r1 : ∀ q ∈ lw_privs_1, lw_okq q := List.forall_mem_cons.mpr ⟨lw_p0, List.forall_mem_cons.mpr ⟨lw_p1, List.forall_mem_cons.mpr ⟨lw_p2, List.forall_mem_cons.mpr ⟨lw_p3, List.forall_mem_cons.mpr ⟨lw_p4, List.forall_mem_cons.mpr ⟨lw_p5, List.forall_mem_cons.mpr ⟨lw_p6, List.forall_mem_cons.mpr ⟨lw_p7, List.forall_mem_cons.mpr ⟨lw_p8, List.forall_mem_cons.mpr ⟨lw_p9, List.forall_mem_cons.mpr ⟨lw_p10, List.forall_mem_cons.mpr ⟨lw_p11, List.forall_mem_cons.mpr ⟨lw_p12, List.forall_mem_cons.mpr ⟨lw_p13, List.forall_mem_cons.mpr ⟨lw_p14, List.forall_mem_cons.mpr ⟨lw_p15, fun _ h => absurd h List.not_mem_nil⟩⟩⟩⟩⟩⟩⟩⟩⟩⟩⟩⟩⟩⟩⟩⟩
theorem lw_p16 : lw_okq (⟨"StreamSeal$Sha256", "mixBlock", "()V"⟩, 6) := ⟨⟨by decide +kernel, by decide +kernel⟩, (List.mem_append_left _ (List.mem_of_getElem? (l := tables_1_1) (i := 59) rfl)), (List.mem_append_right _ (List.mem_append_left _ (List.mem_of_getElem? (l := tables_1_2) (i := 56) rfl))), (List.mem_append_right _ (List.mem_append_left _ (List.mem_of_getElem? (l := tables_1_2) (i := 57) rfl)))⟩
theorem lw_p17 : lw_okq (⟨"StreamSeal$Sha256", "mixRound", "(I)V"⟩, 6) := ⟨⟨by decide +kernel, by decide +kernel⟩, (List.mem_append_left _ (List.mem_of_getElem? (l := tables_1_1) (i := 59) rfl)), (List.mem_append_right _ (List.mem_append_left _ (List.mem_of_getElem? (l := tables_1_2) (i := 62) rfl))), (List.mem_append_right _ (List.mem_append_left _ (List.mem_of_getElem? (l := tables_1_2) (i := 63) rfl)))⟩
theorem lw_p18 : lw_okq (⟨"StreamSealModel", "put", "(I)V"⟩, 21) := ⟨⟨by decide +kernel, by decide +kernel⟩, (List.mem_append_right _ (List.mem_append_left _ (List.mem_of_getElem? (l := tables_1_2) (i := 83) rfl))), (List.mem_append_right _ (List.mem_append_left _ (List.mem_of_getElem? (l := tables_1_2) (i := 157) rfl))), (List.mem_append_right _ (List.mem_append_left _ (List.mem_of_getElem? (l := tables_1_2) (i := 158) rfl)))⟩
theorem lw_p19 : lw_okq (⟨"StreamSealModel", "block", "(I)V"⟩, 21) := ⟨⟨by decide +kernel, by decide +kernel⟩, (List.mem_append_right _ (List.mem_append_left _ (List.mem_of_getElem? (l := tables_1_2) (i := 83) rfl))), (List.mem_append_right _ (List.mem_append_left _ (List.mem_of_getElem? (l := tables_1_2) (i := 181) rfl))), (List.mem_append_right _ (List.mem_append_left _ (List.mem_of_getElem? (l := tables_1_2) (i := 182) rfl)))⟩
theorem lw_p20 : lw_okq (⟨"StreamSealModel", "mix", "(IIII)V"⟩, 21) := ⟨⟨by decide +kernel, by decide +kernel⟩, (List.mem_append_right _ (List.mem_append_left _ (List.mem_of_getElem? (l := tables_1_2) (i := 83) rfl))), (List.mem_append_right _ (List.mem_append_left _ (List.mem_of_getElem? (l := tables_1_2) (i := 192) rfl))), (List.mem_append_right _ (List.mem_append_left _ (List.mem_of_getElem? (l := tables_1_2) (i := 193) rfl)))⟩
theorem lw_p21 : lw_okq (⟨"StreamSealModel", "sumOf", "([BI)V"⟩, 21) := ⟨⟨by decide +kernel, by decide +kernel⟩, (List.mem_append_right _ (List.mem_append_left _ (List.mem_of_getElem? (l := tables_1_2) (i := 83) rfl))), (List.mem_append_right _ (List.mem_append_left _ (List.mem_of_getElem? (l := tables_1_2) (i := 203) rfl))), (List.mem_append_right _ (List.mem_append_left _ (List.mem_of_getElem? (l := tables_1_2) (i := 204) rfl)))⟩
theorem lw_p22 : lw_okq (⟨"StreamSealModel", "settle", "()V"⟩, 21) := ⟨⟨by decide +kernel, by decide +kernel⟩, (List.mem_append_right _ (List.mem_append_left _ (List.mem_of_getElem? (l := tables_1_2) (i := 83) rfl))), (List.mem_append_right _ (List.mem_append_left _ (List.mem_of_getElem? (l := tables_1_2) (i := 207) rfl))), (List.mem_append_right _ (List.mem_append_left _ (List.mem_of_getElem? (l := tables_1_2) (i := 208) rfl)))⟩
theorem lw_p23 : lw_okq (⟨"StreamSealModel", "carry", "()V"⟩, 21) := ⟨⟨by decide +kernel, by decide +kernel⟩, (List.mem_append_right _ (List.mem_append_left _ (List.mem_of_getElem? (l := tables_1_2) (i := 83) rfl))), (List.mem_append_right _ (List.mem_append_left _ (List.mem_of_getElem? (l := tables_1_2) (i := 211) rfl))), (List.mem_append_right _ (List.mem_append_left _ (List.mem_of_getElem? (l := tables_1_2) (i := 212) rfl)))⟩
theorem lw_p24 : lw_okq (⟨"StreamSealModel", "tag", "()I"⟩, 21) := ⟨⟨by decide +kernel, by decide +kernel⟩, (List.mem_append_right _ (List.mem_append_left _ (List.mem_of_getElem? (l := tables_1_2) (i := 83) rfl))), (List.mem_append_right _ (List.mem_append_left _ (List.mem_of_getElem? (l := tables_1_2) (i := 215) rfl))), (List.mem_append_right _ (List.mem_append_left _ (List.mem_of_getElem? (l := tables_1_2) (i := 216) rfl)))⟩
theorem lw_p25 : lw_okq (⟨"StreamSealModel", "cover", "(II[B)V"⟩, 21) := ⟨⟨by decide +kernel, by decide +kernel⟩, (List.mem_append_right _ (List.mem_append_left _ (List.mem_of_getElem? (l := tables_1_2) (i := 83) rfl))), (List.mem_append_right _ (List.mem_append_left _ (List.mem_of_getElem? (l := tables_1_2) (i := 223) rfl))), (List.mem_append_right _ (List.mem_append_left _ (List.mem_of_getElem? (l := tables_1_2) (i := 224) rfl)))⟩
theorem lw_p26 : lw_okq (⟨"StreamSealModel", "seals", "(I[BII)V"⟩, 21) := ⟨⟨by decide +kernel, by decide +kernel⟩, (List.mem_append_right _ (List.mem_append_left _ (List.mem_of_getElem? (l := tables_1_2) (i := 83) rfl))), (List.mem_append_right _ (List.mem_append_left _ (List.mem_of_getElem? (l := tables_1_2) (i := 227) rfl))), (List.mem_append_right _ (List.mem_append_left _ (List.mem_of_getElem? (l := tables_1_2) (i := 228) rfl)))⟩
theorem lw_p27 : lw_okq (⟨"StreamSealModel", "text", "([BII)V"⟩, 21) := ⟨⟨by decide +kernel, by decide +kernel⟩, (List.mem_append_right _ (List.mem_append_left _ (List.mem_of_getElem? (l := tables_1_2) (i := 83) rfl))), (List.mem_append_right _ (List.mem_append_left _ (List.mem_of_getElem? (l := tables_1_2) (i := 231) rfl))), (List.mem_append_right _ (List.mem_append_left _ (List.mem_of_getElem? (l := tables_1_2) (i := 232) rfl)))⟩
theorem lw_p28 : lw_okq (⟨"StreamSealModel", "add", "([BII)V"⟩, 21) := ⟨⟨by decide +kernel, by decide +kernel⟩, (List.mem_append_right _ (List.mem_append_left _ (List.mem_of_getElem? (l := tables_1_2) (i := 83) rfl))), (List.mem_append_right _ (List.mem_append_right _ (List.mem_of_getElem? (l := tables_1_3) (i := 3) rfl))), (List.mem_append_right _ (List.mem_append_right _ (List.mem_of_getElem? (l := tables_1_3) (i := 4) rfl)))⟩
theorem lw_p29 : lw_okq (⟨"StreamSealModel", "add", "(I)V"⟩, 21) := ⟨⟨by decide +kernel, by decide +kernel⟩, (List.mem_append_right _ (List.mem_append_left _ (List.mem_of_getElem? (l := tables_1_2) (i := 83) rfl))), (List.mem_append_right _ (List.mem_append_right _ (List.mem_of_getElem? (l := tables_1_3) (i := 7) rfl))), (List.mem_append_right _ (List.mem_append_right _ (List.mem_of_getElem? (l := tables_1_3) (i := 8) rfl)))⟩
theorem lw_p30 : lw_okq (⟨"StreamSealModel", "hashTo", "([BI)V"⟩, 21) := ⟨⟨by decide +kernel, by decide +kernel⟩, (List.mem_append_right _ (List.mem_append_left _ (List.mem_of_getElem? (l := tables_1_2) (i := 83) rfl))), (List.mem_append_right _ (List.mem_append_right _ (List.mem_of_getElem? (l := tables_1_3) (i := 11) rfl))), (List.mem_append_right _ (List.mem_append_right _ (List.mem_of_getElem? (l := tables_1_3) (i := 12) rfl)))⟩
theorem lw_p31 : lw_okq (⟨"StreamSealModel", "block", "(III)V"⟩, 21) := ⟨⟨by decide +kernel, by decide +kernel⟩, (List.mem_append_right _ (List.mem_append_left _ (List.mem_of_getElem? (l := tables_1_2) (i := 83) rfl))), (List.mem_append_right _ (List.mem_append_right _ (List.mem_of_getElem? (l := tables_1_3) (i := 18) rfl))), (List.mem_append_right _ (List.mem_append_right _ (List.mem_of_getElem? (l := tables_1_3) (i := 19) rfl)))⟩
def lw_privs_2 : List (MethodName × Nat) := [(⟨"StreamSeal$Sha256", "mixBlock", "()V"⟩, 6), (⟨"StreamSeal$Sha256", "mixRound", "(I)V"⟩, 6), (⟨"StreamSealModel", "put", "(I)V"⟩, 21), (⟨"StreamSealModel", "block", "(I)V"⟩, 21), (⟨"StreamSealModel", "mix", "(IIII)V"⟩, 21), (⟨"StreamSealModel", "sumOf", "([BI)V"⟩, 21), (⟨"StreamSealModel", "settle", "()V"⟩, 21), (⟨"StreamSealModel", "carry", "()V"⟩, 21), (⟨"StreamSealModel", "tag", "()I"⟩, 21), (⟨"StreamSealModel", "cover", "(II[B)V"⟩, 21), (⟨"StreamSealModel", "seals", "(I[BII)V"⟩, 21), (⟨"StreamSealModel", "text", "([BII)V"⟩, 21), (⟨"StreamSealModel", "add", "([BII)V"⟩, 21), (⟨"StreamSealModel", "add", "(I)V"⟩, 21), (⟨"StreamSealModel", "hashTo", "([BI)V"⟩, 21), (⟨"StreamSealModel", "block", "(III)V"⟩, 21)]
theorem lw_r2 : ∀ q ∈ lw_privs_2, lw_okq q := List.forall_mem_cons.mpr ⟨lw_p16, List.forall_mem_cons.mpr ⟨lw_p17, List.forall_mem_cons.mpr ⟨lw_p18, List.forall_mem_cons.mpr ⟨lw_p19, List.forall_mem_cons.mpr ⟨lw_p20, List.forall_mem_cons.mpr ⟨lw_p21, List.forall_mem_cons.mpr ⟨lw_p22, List.forall_mem_cons.mpr ⟨lw_p23, List.forall_mem_cons.mpr ⟨lw_p24, List.forall_mem_cons.mpr ⟨lw_p25, List.forall_mem_cons.mpr ⟨lw_p26, List.forall_mem_cons.mpr ⟨lw_p27, List.forall_mem_cons.mpr ⟨lw_p28, List.forall_mem_cons.mpr ⟨lw_p29, List.forall_mem_cons.mpr ⟨lw_p30, List.forall_mem_cons.mpr ⟨lw_p31, fun _ h => absurd h List.not_mem_nil⟩⟩⟩⟩⟩⟩⟩⟩⟩⟩⟩⟩⟩⟩⟩⟩
def lw_privs : List (MethodName × Nat) := lw_privs_1 ++ (lw_privs_2)
def lw_tbl : List Cond := k2_sels lw_privs ++ tables_1
theorem lw_privs_ok : ∀ q ∈ lw_privs, lw_okq q := by
  show ∀ q ∈ lw_privs_1 ++ (lw_privs_2), lw_okq q
  exact List.forall_mem_append.mpr ⟨lw_r1, lw_r2⟩

abbrev RX0 : String := "StreamSeal$ChaCha20"
def TX0 : u_T := fun k => match k with
  | 0 => ("StreamSeal$ChaCha20", "first", "[I", true)
  | _ => ("StreamSeal$ChaCha20", "mixed", "[I", true)
def tyX0 : Nat → FieldType := fun k => match k with
  | 0 => .array .int
  | _ => .array .int
theorem nmX0 : ∀ a, a < 2 → ∀ b, b < 2 → a ≠ b → (TX0 a).2.1 ≠ (TX0 b).2.1 := by decide +kernel
theorem tyX0_ok : ∀ k, k < 2 → parseFieldDescriptor (TX0 k).2.2.1 = some (tyX0 k) := by decide +kernel
abbrev RX1 : String := "StreamSeal$Poly1305"
def TX1 : u_T := fun k => match k with
  | 0 => ("StreamSeal$Poly1305", "factor", "[J", true)
  | 1 => ("StreamSeal$Poly1305", "total", "[J", true)
  | 2 => ("StreamSeal$Poly1305", "product", "[J", true)
  | 3 => ("StreamSeal$Poly1305", "words", "[J", true)
  | 4 => ("StreamSeal$Poly1305", "last", "[I", true)
  | _ => ("StreamSeal$Poly1305", "block", "[B", true)
def tyX1 : Nat → FieldType := fun k => match k with
  | 0 => .array .long
  | 1 => .array .long
  | 2 => .array .long
  | 3 => .array .long
  | 4 => .array .int
  | _ => .array .byte
theorem nmX1 : ∀ a, a < 6 → ∀ b, b < 6 → a ≠ b → (TX1 a).2.1 ≠ (TX1 b).2.1 := by decide +kernel
theorem tyX1_ok : ∀ k, k < 6 → parseFieldDescriptor (TX1 k).2.2.1 = some (tyX1 k) := by decide +kernel
abbrev RX2 : String := "StreamSeal$Sha256"
def TX2 : u_T := fun k => match k with
  | 0 => ("StreamSeal$Sha256", "state", "[I", true)
  | 1 => ("StreamSeal$Sha256", "schedule", "[I", true)
  | 2 => ("StreamSeal$Sha256", "round", "[I", true)
  | 3 => ("StreamSeal$Sha256", "block", "[B", true)
  | 4 => ("StreamSeal$Sha256", "filled", "I", false)
  | _ => ("StreamSeal$Sha256", "size", "I", false)
def tyX2 : Nat → FieldType := fun k => match k with
  | 0 => .array .int
  | 1 => .array .int
  | 2 => .array .int
  | 3 => .array .byte
  | 4 => .int
  | _ => .int
theorem nmX2 : ∀ a, a < 6 → ∀ b, b < 6 → a ≠ b → (TX2 a).2.1 ≠ (TX2 b).2.1 := by decide +kernel
theorem tyX2_ok : ∀ k, k < 6 → parseFieldDescriptor (TX2 k).2.2.1 = some (tyX2 k) := by decide +kernel
abbrev RX3 : String := "StreamSeal"
def TX3 : u_T := fun k => match k with
  | 0 => ("StreamSeal", "tape", "[B", true)
  | 1 => ("StreamSeal", "tapeSize", "I", false)
  | 2 => ("StreamSeal", "out", "[B", true)
  | 3 => ("StreamSeal", "outSize", "I", false)
  | 4 => ("StreamSeal", "keyBytes", "[B", true)
  | 5 => ("StreamSeal", "nonceBytes", "[B", true)
  | 6 => ("StreamSeal", "streamBytes", "[B", true)
  | 7 => ("StreamSeal", "sizeBytes", "[B", true)
  | 8 => ("StreamSeal", "sumBytes", "[B", true)
  | 9 => ("StreamSeal", "streamer", "LStreamSeal$ChaCha20;", true)
  | 10 => ("StreamSeal", "summer", "LStreamSeal$Poly1305;", true)
  | _ => ("StreamSeal", "digester", "LStreamSeal$Sha256;", true)
def tyX3 : Nat → FieldType := fun k => match k with
  | 0 => .array .byte
  | 1 => .int
  | 2 => .array .byte
  | 3 => .int
  | 4 => .array .byte
  | 5 => .array .byte
  | 6 => .array .byte
  | 7 => .array .byte
  | 8 => .array .byte
  | 9 => .object "StreamSeal$ChaCha20"
  | 10 => .object "StreamSeal$Poly1305"
  | _ => .object "StreamSeal$Sha256"
theorem nmX3 : ∀ a, a < 12 → ∀ b, b < 12 → a ≠ b → (TX3 a).2.1 ≠ (TX3 b).2.1 := by decide +kernel
theorem tyX3_ok : ∀ k, k < 12 → parseFieldDescriptor (TX3 k).2.2.1 = some (tyX3 k) := by decide +kernel
abbrev RX4 : String := "StreamSealModel"
def TX4 : u_T := fun k => match k with
  | 0 => ("StreamSealModel", "tape", "[B", true)
  | 1 => ("StreamSealModel", "tapeLength", "I", false)
  | 2 => ("StreamSealModel", "out", "[B", true)
  | 3 => ("StreamSealModel", "outCount", "I", false)
  | 4 => ("StreamSealModel", "key", "[B", true)
  | 5 => ("StreamSealModel", "nonce", "[B", true)
  | 6 => ("StreamSealModel", "row", "[B", true)
  | 7 => ("StreamSealModel", "rowCount", "I", false)
  | 8 => ("StreamSealModel", "h", "[J", true)
  | 9 => ("StreamSealModel", "w", "[J", true)
  | 10 => ("StreamSealModel", "one", "[B", true)
  | 11 => ("StreamSealModel", "v", "[I", true)
  | 12 => ("StreamSealModel", "begin", "[I", true)
  | 13 => ("StreamSealModel", "stream", "[B", true)
  | 14 => ("StreamSealModel", "sum", "[I", true)
  | 15 => ("StreamSealModel", "product", "[I", true)
  | 16 => ("StreamSealModel", "\x72", "[I", true)
  | 17 => ("StreamSealModel", "text", "[B", true)
  | 18 => ("StreamSealModel", "tag", "[B", true)
  | 19 => ("StreamSealModel", "above", "[I", true)
  | _ => ("StreamSealModel", "texts", "I", false)
def tyX4 : Nat → FieldType := fun k => match k with
  | 0 => .array .byte
  | 1 => .int
  | 2 => .array .byte
  | 3 => .int
  | 4 => .array .byte
  | 5 => .array .byte
  | 6 => .array .byte
  | 7 => .int
  | 8 => .array .long
  | 9 => .array .long
  | 10 => .array .byte
  | 11 => .array .int
  | 12 => .array .int
  | 13 => .array .byte
  | 14 => .array .int
  | 15 => .array .int
  | 16 => .array .int
  | 17 => .array .byte
  | 18 => .array .byte
  | 19 => .array .int
  | _ => .int
theorem nmX4 : ∀ a, a < 21 → ∀ b, b < 21 → a ≠ b → (TX4 a).2.1 ≠ (TX4 b).2.1 := by decide +kernel
theorem tyX4_ok : ∀ k, k < 21 → parseFieldDescriptor (TX4 k).2.2.1 = some (tyX4 k) := by decide +kernel
abbrev vwCl : List vw_C := [(RX0, TX0, 2), (RX1, TX1, 6), (RX2, TX2, 6), (RX3, TX3, 12), (RX4, TX4, 21)]
abbrev cS_init : ByteArray := prog_1_method_1_code
def yS_init : MethodName := ⟨"StreamSeal", "<init>", "()V"⟩
abbrev cS_feed : ByteArray := prog_1_method_2_code
def yS_feed : MethodName := ⟨"StreamSeal", "feed", "(IIIII)I"⟩
abbrev cS_end : ByteArray := prog_1_method_3_code
def yS_end : MethodName := ⟨"StreamSeal", "end", "(I)I"⟩
abbrev cS_take : ByteArray := prog_1_method_4_code
def yS_take : MethodName := ⟨"StreamSeal", "take", "(I)I"⟩
abbrev cS_key : ByteArray := prog_1_method_5_code
def yS_key : MethodName := ⟨"StreamSeal", "key", "()I"⟩
abbrev cS_nonce : ByteArray := prog_1_method_6_code
def yS_nonce : MethodName := ⟨"StreamSeal", "nonce", "(IJ)V"⟩
abbrev cS_stream : ByteArray := prog_1_method_7_code
def yS_stream : MethodName := ⟨"StreamSeal", "stream", "(I)I"⟩
abbrev cS_sum : ByteArray := prog_1_method_8_code
def yS_sum : MethodName := ⟨"StreamSeal", "sum", "()I"⟩
abbrev cS_seal : ByteArray := prog_1_method_9_code
def yS_seal : MethodName := ⟨"StreamSeal", "seal", "(I)I"⟩
abbrev cS_open : ByteArray := prog_1_method_10_code
def yS_open : MethodName := ⟨"StreamSeal", "open", "(I)I"⟩
abbrev cS_digest : ByteArray := prog_1_method_11_code
def yS_digest : MethodName := ⟨"StreamSeal", "digest", "()I"⟩
abbrev cS_mac : ByteArray := prog_1_method_12_code
def yS_mac : MethodName := ⟨"StreamSeal", "mac", "()I"⟩
abbrev cS_octet : ByteArray := prog_1_method_13_code
def yS_octet : MethodName := ⟨"StreamSeal", "octet", "(I)I"⟩
abbrev cS_tapeReaches : ByteArray := prog_1_method_14_code
def yS_tapeReaches : MethodName := ⟨"StreamSeal", "tapeReaches", "(I)Z"⟩
abbrev cS_streamTapeToOut : ByteArray := prog_1_method_15_code
def yS_streamTapeToOut : MethodName := ⟨"StreamSeal", "streamTapeToOut", "(II)V"⟩
abbrev cS_sumSealed : ByteArray := prog_1_method_16_code
def yS_sumSealed : MethodName := ⟨"StreamSeal", "sumSealed", "(I[BII)V"⟩
abbrev cS_sumStandsAt : ByteArray := prog_1_method_17_code
def yS_sumStandsAt : MethodName := ⟨"StreamSeal", "sumStandsAt", "(I)Z"⟩
abbrev cS_writeHighestFirst : ByteArray := prog_1_method_18_code
def yS_writeHighestFirst : MethodName := ⟨"StreamSeal", "writeHighestFirst", "([BII)V"⟩
abbrev cS_writeLowestFirst : ByteArray := prog_1_method_19_code
def yS_writeLowestFirst : MethodName := ⟨"StreamSeal", "writeLowestFirst", "([BII)V"⟩
abbrev cS_readHighestFirst : ByteArray := prog_1_method_20_code
def yS_readHighestFirst : MethodName := ⟨"StreamSeal", "readHighestFirst", "([BI)I"⟩
abbrev cS_readLowestFirst : ByteArray := prog_1_method_21_code
def yS_readLowestFirst : MethodName := ⟨"StreamSeal", "readLowestFirst", "([BI)I"⟩
abbrev cS_turnLeft : ByteArray := prog_1_method_22_code
def yS_turnLeft : MethodName := ⟨"StreamSeal", "turnLeft", "(II)I"⟩
abbrev cS_turnRight : ByteArray := prog_1_method_23_code
def yS_turnRight : MethodName := ⟨"StreamSeal", "turnRight", "(II)I"⟩
abbrev cM_init : ByteArray := prog_6_method_1_code
def yM_init : MethodName := ⟨"StreamSealModel", "<init>", "()V"⟩
abbrev cM_add : ByteArray := prog_6_method_2_code
def yM_add : MethodName := ⟨"StreamSealModel", "add", "(I)V"⟩
abbrev cM_addArr : ByteArray := prog_6_method_3_code
def yM_addArr : MethodName := ⟨"StreamSealModel", "add", "([BII)V"⟩
abbrev cM_turn : ByteArray := prog_6_method_4_code
def yM_turn : MethodName := ⟨"StreamSealModel", "turn", "(JI)J"⟩
abbrev cM_hblock : ByteArray := prog_6_method_5_code
def yM_hblock : MethodName := ⟨"StreamSealModel", "block", "(III)V"⟩
abbrev cM_hashTo : ByteArray := prog_6_method_6_code
def yM_hashTo : MethodName := ⟨"StreamSealModel", "hashTo", "([BI)V"⟩
abbrev cM_low : ByteArray := prog_6_method_7_code
def yM_low : MethodName := ⟨"StreamSealModel", "low", "([BI)I"⟩
abbrev cM_mix : ByteArray := prog_6_method_8_code
def yM_mix : MethodName := ⟨"StreamSealModel", "mix", "(IIII)V"⟩
abbrev cM_turned : ByteArray := prog_6_method_9_code
def yM_turned : MethodName := ⟨"StreamSealModel", "turned", "(II)I"⟩
abbrev cM_block : ByteArray := prog_6_method_10_code
def yM_block : MethodName := ⟨"StreamSealModel", "block", "(I)V"⟩
abbrev cM_carry : ByteArray := prog_6_method_11_code
def yM_carry : MethodName := ⟨"StreamSealModel", "carry", "()V"⟩
abbrev cM_settle : ByteArray := prog_6_method_12_code
def yM_settle : MethodName := ⟨"StreamSealModel", "settle", "()V"⟩
abbrev cM_sumOf : ByteArray := prog_6_method_13_code
def yM_sumOf : MethodName := ⟨"StreamSealModel", "sumOf", "([BI)V"⟩
abbrev cM_text : ByteArray := prog_6_method_14_code
def yM_text : MethodName := ⟨"StreamSealModel", "text", "([BII)V"⟩
abbrev cM_seals : ByteArray := prog_6_method_15_code
def yM_seals : MethodName := ⟨"StreamSealModel", "seals", "(I[BII)V"⟩
abbrev cM_cover : ByteArray := prog_6_method_16_code
def yM_cover : MethodName := ⟨"StreamSealModel", "cover", "(II[B)V"⟩
abbrev cM_put : ByteArray := prog_6_method_17_code
def yM_put : MethodName := ⟨"StreamSealModel", "put", "(I)V"⟩
abbrev cM_feed : ByteArray := prog_6_method_18_code
def yM_feed : MethodName := ⟨"StreamSealModel", "feed", "(IIIII)I"⟩
abbrev cM_end : ByteArray := prog_6_method_19_code
def yM_end : MethodName := ⟨"StreamSealModel", "end", "(I)I"⟩
abbrev cM_take : ByteArray := prog_6_method_20_code
def yM_take : MethodName := ⟨"StreamSealModel", "take", "(I)I"⟩
abbrev cM_key : ByteArray := prog_6_method_21_code
def yM_key : MethodName := ⟨"StreamSealModel", "key", "()I"⟩
abbrev cM_nonce : ByteArray := prog_6_method_22_code
def yM_nonce : MethodName := ⟨"StreamSealModel", "nonce", "(IJ)V"⟩
abbrev cM_stream : ByteArray := prog_6_method_23_code
def yM_stream : MethodName := ⟨"StreamSealModel", "stream", "(I)I"⟩
abbrev cM_tag : ByteArray := prog_6_method_24_code
def yM_tag : MethodName := ⟨"StreamSealModel", "tag", "()I"⟩
abbrev cM_sum : ByteArray := prog_6_method_25_code
def yM_sum : MethodName := ⟨"StreamSealModel", "sum", "()I"⟩
abbrev cM_seal : ByteArray := prog_6_method_26_code
def yM_seal : MethodName := ⟨"StreamSealModel", "seal", "(I)I"⟩
abbrev cM_open : ByteArray := prog_6_method_27_code
def yM_open : MethodName := ⟨"StreamSealModel", "open", "(I)I"⟩
abbrev cM_digest : ByteArray := prog_6_method_28_code
def yM_digest : MethodName := ⟨"StreamSealModel", "digest", "()I"⟩
abbrev cM_mac : ByteArray := prog_6_method_29_code
def yM_mac : MethodName := ⟨"StreamSealModel", "mac", "()I"⟩
abbrev cM_octet : ByteArray := prog_6_method_30_code
def yM_octet : MethodName := ⟨"StreamSealModel", "octet", "(I)I"⟩
abbrev cC_init : ByteArray := prog_2_method_1_code
def yC_init : MethodName := ⟨"StreamSeal$ChaCha20", "<init>", "()V"⟩
abbrev cC_fill : ByteArray := prog_2_method_2_code
def yC_fill : MethodName := ⟨"StreamSeal$ChaCha20", "fill", "([B[B[BI)V"⟩
abbrev cC_lay : ByteArray := prog_2_method_3_code
def yC_lay : MethodName := ⟨"StreamSeal$ChaCha20", "lay", "([B[BI)V"⟩
abbrev cC_mixColumns : ByteArray := prog_2_method_4_code
def yC_mixColumns : MethodName := ⟨"StreamSeal$ChaCha20", "mixColumns", "()V"⟩
abbrev cC_mixDiagonals : ByteArray := prog_2_method_5_code
def yC_mixDiagonals : MethodName := ⟨"StreamSeal$ChaCha20", "mixDiagonals", "()V"⟩
abbrev cC_mixQuarter : ByteArray := prog_2_method_6_code
def yC_mixQuarter : MethodName := ⟨"StreamSeal$ChaCha20", "mixQuarter", "(IIII)V"⟩
abbrev cP_init : ByteArray := prog_3_method_1_code
def yP_init : MethodName := ⟨"StreamSeal$Poly1305", "<init>", "()V"⟩
abbrev cP_start : ByteArray := prog_3_method_2_code
def yP_start : MethodName := ⟨"StreamSeal$Poly1305", "start", "([B)V"⟩
abbrev cP_add : ByteArray := prog_3_method_3_code
def yP_add : MethodName := ⟨"StreamSeal$Poly1305", "add", "([BII)V"⟩
abbrev cP_addPadded : ByteArray := prog_3_method_4_code
def yP_addPadded : MethodName := ⟨"StreamSeal$Poly1305", "addPadded", "([BII)V"⟩
abbrev cP_finish : ByteArray := prog_3_method_5_code
def yP_finish : MethodName := ⟨"StreamSeal$Poly1305", "finish", "([BI)V"⟩
abbrev cP_clampBlock : ByteArray := prog_3_method_6_code
def yP_clampBlock : MethodName := ⟨"StreamSeal$Poly1305", "clampBlock", "()V"⟩
abbrev cP_blockPart : ByteArray := prog_3_method_7_code
def yP_blockPart : MethodName := ⟨"StreamSeal$Poly1305", "blockPart", "(I)J"⟩
abbrev cP_addBlock : ByteArray := prog_3_method_8_code
def yP_addBlock : MethodName := ⟨"StreamSeal$Poly1305", "addBlock", "([BIII)V"⟩
abbrev cP_multiply : ByteArray := prog_3_method_9_code
def yP_multiply : MethodName := ⟨"StreamSeal$Poly1305", "multiply", "()V"⟩
abbrev cP_carry : ByteArray := prog_3_method_10_code
def yP_carry : MethodName := ⟨"StreamSeal$Poly1305", "carry", "()V"⟩
abbrev cP_takePrimeOff : ByteArray := prog_3_method_11_code
def yP_takePrimeOff : MethodName := ⟨"StreamSeal$Poly1305", "takePrimeOff", "()V"⟩
abbrev cH_init : ByteArray := prog_4_method_1_code
def yH_init : MethodName := ⟨"StreamSeal$Sha256", "<init>", "()V"⟩
abbrev cH_start : ByteArray := prog_4_method_2_code
def yH_start : MethodName := ⟨"StreamSeal$Sha256", "start", "()V"⟩
abbrev cH_add : ByteArray := prog_4_method_3_code
def yH_add : MethodName := ⟨"StreamSeal$Sha256", "add", "([BI)V"⟩
abbrev cH_addMasked : ByteArray := prog_4_method_4_code
def yH_addMasked : MethodName := ⟨"StreamSeal$Sha256", "addMasked", "([BI)V"⟩
abbrev cH_finish : ByteArray := prog_4_method_5_code
def yH_finish : MethodName := ⟨"StreamSeal$Sha256", "finish", "([B)V"⟩
abbrev cH_addByte : ByteArray := prog_4_method_6_code
def yH_addByte : MethodName := ⟨"StreamSeal$Sha256", "addByte", "(B)V"⟩
abbrev cH_spreadBlock : ByteArray := prog_4_method_7_code
def yH_spreadBlock : MethodName := ⟨"StreamSeal$Sha256", "spreadBlock", "()V"⟩
abbrev cH_mixBlock : ByteArray := prog_4_method_8_code
def yH_mixBlock : MethodName := ⟨"StreamSeal$Sha256", "mixBlock", "()V"⟩
abbrev cH_mixRound : ByteArray := prog_4_method_9_code
def yH_mixRound : MethodName := ⟨"StreamSeal$Sha256", "mixRound", "(I)V"⟩
abbrev cL_law : ByteArray := code
def yL_law : MethodName := ⟨"StreamSealLaw", "law", "([I)Z"⟩
abbrev cA_fill : ByteArray := prog_9_method_109_code
def yA_fill : MethodName := ⟨"java/util/Arrays", "fill", "([BB)V"⟩
def gT : List Cond := lw_tbl.filter goodWord
theorem gT_tbl {w : Cond} (h : w ∈ gT) : w ∈ lw_tbl := (List.mem_filter.mp h).1
theorem gT_good : ∀ w ∈ gT, w ∈ gT ∧ ((w.onTables && w.keeps) = true ∨ ∃ ty, w = .arrayClass ty) := fun w h => ⟨h, good_of_word (List.mem_filter.mp h).2⟩
