section
-- ===== PART A: goes FIRST, ahead of the names: the tables' words, and 'selects' of the private methods out of them =====
/-- a private method of a class that the tables say can be made, by its rows of tables_1 -/
def lw_okq (q : MethodName × Nat) : Prop := (q.1.cls ≠ "java/lang/invoke/MethodHandle" ∧ q.1.cls ≠ "java/lang/invoke/VarHandle") ∧ Cond.instantiable q.1.cls q.2 ∈ tables_1 ∧ Cond.privateMethod q.1 ∈ tables_1 ∧ Cond.instanceMethod q.1 ∈ tables_1
theorem lw_p0 : lw_okq (⟨"PinwheelKernel", "lookForSeam", "()V"⟩, 11) := ⟨⟨by decide +kernel, by decide +kernel⟩, List.mem_of_getElem? (i := 28) (by decide +kernel), List.mem_of_getElem? (i := 123) (by decide +kernel), List.mem_of_getElem? (i := 124) (by decide +kernel)⟩
theorem lw_p1 : lw_okq (⟨"PinwheelKernel$Clients", "copyAt", "(ILPinwheelKernel$Clients;I)V"⟩, 5) := ⟨⟨by decide +kernel, by decide +kernel⟩, List.mem_of_getElem? (i := 47) (by decide +kernel), List.mem_of_getElem? (i := 135) (by decide +kernel), List.mem_of_getElem? (i := 136) (by decide +kernel)⟩
theorem lw_p2 : lw_okq (⟨"PinwheelKernel$Cycle", "canGoOnFrom", "(ILPinwheelKernel$Clients;)Z"⟩, 3) := ⟨⟨by decide +kernel, by decide +kernel⟩, List.mem_of_getElem? (i := 69) (by decide +kernel), List.mem_of_getElem? (i := 143) (by decide +kernel), List.mem_of_getElem? (i := 144) (by decide +kernel)⟩
theorem lw_p3 : lw_okq (⟨"PinwheelKernel$Cycle", "comesWithin", "(III)Z"⟩, 3) := ⟨⟨by decide +kernel, by decide +kernel⟩, List.mem_of_getElem? (i := 69) (by decide +kernel), List.mem_of_getElem? (i := 163) (by decide +kernel), List.mem_of_getElem? (i := 164) (by decide +kernel)⟩
theorem lw_p4 : lw_okq (⟨"PinwheelKernel", "goOver", "(I)V"⟩, 11) := ⟨⟨by decide +kernel, by decide +kernel⟩, List.mem_of_getElem? (i := 28) (by decide +kernel), List.mem_of_getElem? (i := 171) (by decide +kernel), List.mem_of_getElem? (i := 172) (by decide +kernel)⟩
theorem lw_p5 : lw_okq (⟨"PinwheelKernel", "stateBuilder", "()LPinwheelKernel$StateBuilder;"⟩, 11) := ⟨⟨by decide +kernel, by decide +kernel⟩, List.mem_of_getElem? (i := 28) (by decide +kernel), List.mem_of_getElem? (i := 193) (by decide +kernel), List.mem_of_getElem? (i := 194) (by decide +kernel)⟩
theorem lw_p6 : lw_okq (⟨"PinwheelKernel$StateBuilder", "takeInOrder", "(LPinwheelKernel$Clients;)V"⟩, 11) := ⟨⟨by decide +kernel, by decide +kernel⟩, List.mem_of_getElem? (i := 197) (by decide +kernel), List.mem_of_getElem? (i := 243) (by decide +kernel), List.mem_of_getElem? (i := 244) (by decide +kernel)⟩
theorem lw_p7 : lw_okq (⟨"PinwheelKernel$StateBuilder", "weigh", "()V"⟩, 11) := ⟨⟨by decide +kernel, by decide +kernel⟩, List.mem_of_getElem? (i := 197) (by decide +kernel), List.mem_of_getElem? (i := 248) (by decide +kernel), List.mem_of_getElem? (i := 249) (by decide +kernel)⟩
theorem lw_p8 : lw_okq (⟨"PinwheelKernel$StateBuilder", "listDeadEnds", "()V"⟩, 11) := ⟨⟨by decide +kernel, by decide +kernel⟩, List.mem_of_getElem? (i := 197) (by decide +kernel), List.mem_of_getElem? (i := 256) (by decide +kernel), List.mem_of_getElem? (i := 257) (by decide +kernel)⟩
theorem lw_p9 : lw_okq (⟨"PinwheelKernel$StateBuilder", "countWaysOn", "(I)I"⟩, 11) := ⟨⟨by decide +kernel, by decide +kernel⟩, List.mem_of_getElem? (i := 197) (by decide +kernel), List.mem_of_getElem? (i := 260) (by decide +kernel), List.mem_of_getElem? (i := 261) (by decide +kernel)⟩
theorem lw_p10 : lw_okq (⟨"PinwheelKernel$StateBuilder", "digit", "(II)I"⟩, 11) := ⟨⟨by decide +kernel, by decide +kernel⟩, List.mem_of_getElem? (i := 197) (by decide +kernel), List.mem_of_getElem? (i := 264) (by decide +kernel), List.mem_of_getElem? (i := 265) (by decide +kernel)⟩
theorem lw_p11 : lw_okq (⟨"PinwheelKernel$StateBuilder", "strikeWaysTo", "(I)V"⟩, 11) := ⟨⟨by decide +kernel, by decide +kernel⟩, List.mem_of_getElem? (i := 197) (by decide +kernel), List.mem_of_getElem? (i := 268) (by decide +kernel), List.mem_of_getElem? (i := 269) (by decide +kernel)⟩
theorem lw_p12 : lw_okq (⟨"PinwheelKernel$StateBuilder", "canComeFrom", "(II)Z"⟩, 11) := ⟨⟨by decide +kernel, by decide +kernel⟩, List.mem_of_getElem? (i := 197) (by decide +kernel), List.mem_of_getElem? (i := 272) (by decide +kernel), List.mem_of_getElem? (i := 273) (by decide +kernel)⟩
theorem lw_p13 : lw_okq (⟨"PinwheelKernel$StateBuilder", "strikeOneWay", "(I)V"⟩, 11) := ⟨⟨by decide +kernel, by decide +kernel⟩, List.mem_of_getElem? (i := 197) (by decide +kernel), List.mem_of_getElem? (i := 276) (by decide +kernel), List.mem_of_getElem? (i := 277) (by decide +kernel)⟩
theorem lw_p14 : lw_okq (⟨"java/lang/Throwable", "fillInStackTrace", "(I)Ljava/lang/Throwable;"⟩, 6) := ⟨⟨by decide +kernel, by decide +kernel⟩, List.mem_of_getElem? (i := 331) (by decide +kernel), List.mem_of_getElem? (i := 329) (by decide +kernel), List.mem_of_getElem? (i := 330) (by decide +kernel)⟩
theorem lw_p15 : lw_okq (⟨"PinwheelKernel", "layPlanned", "()I"⟩, 11) := ⟨⟨by decide +kernel, by decide +kernel⟩, List.mem_of_getElem? (i := 28) (by decide +kernel), List.mem_of_getElem? (i := 395) (by decide +kernel), List.mem_of_getElem? (i := 396) (by decide +kernel)⟩
def lw_privs_1 : List (MethodName × Nat) := [(⟨"PinwheelKernel", "lookForSeam", "()V"⟩, 11), (⟨"PinwheelKernel$Clients", "copyAt", "(ILPinwheelKernel$Clients;I)V"⟩, 5), (⟨"PinwheelKernel$Cycle", "canGoOnFrom", "(ILPinwheelKernel$Clients;)Z"⟩, 3), (⟨"PinwheelKernel$Cycle", "comesWithin", "(III)Z"⟩, 3), (⟨"PinwheelKernel", "goOver", "(I)V"⟩, 11), (⟨"PinwheelKernel", "stateBuilder", "()LPinwheelKernel$StateBuilder;"⟩, 11), (⟨"PinwheelKernel$StateBuilder", "takeInOrder", "(LPinwheelKernel$Clients;)V"⟩, 11), (⟨"PinwheelKernel$StateBuilder", "weigh", "()V"⟩, 11), (⟨"PinwheelKernel$StateBuilder", "listDeadEnds", "()V"⟩, 11), (⟨"PinwheelKernel$StateBuilder", "countWaysOn", "(I)I"⟩, 11), (⟨"PinwheelKernel$StateBuilder", "digit", "(II)I"⟩, 11), (⟨"PinwheelKernel$StateBuilder", "strikeWaysTo", "(I)V"⟩, 11), (⟨"PinwheelKernel$StateBuilder", "canComeFrom", "(II)Z"⟩, 11), (⟨"PinwheelKernel$StateBuilder", "strikeOneWay", "(I)V"⟩, 11), (⟨"java/lang/Throwable", "fillInStackTrace", "(I)Ljava/lang/Throwable;"⟩, 6), (⟨"PinwheelKernel", "layPlanned", "()I"⟩, 11)]
theorem lw_r1 : ∀ q ∈ lw_privs_1, lw_okq q := List.forall_mem_cons.mpr ⟨lw_p0, List.forall_mem_cons.mpr ⟨lw_p1, List.forall_mem_cons.mpr ⟨lw_p2, List.forall_mem_cons.mpr ⟨lw_p3, List.forall_mem_cons.mpr ⟨lw_p4, List.forall_mem_cons.mpr ⟨lw_p5, List.forall_mem_cons.mpr ⟨lw_p6, List.forall_mem_cons.mpr ⟨lw_p7, List.forall_mem_cons.mpr ⟨lw_p8, List.forall_mem_cons.mpr ⟨lw_p9, List.forall_mem_cons.mpr ⟨lw_p10, List.forall_mem_cons.mpr ⟨lw_p11, List.forall_mem_cons.mpr ⟨lw_p12, List.forall_mem_cons.mpr ⟨lw_p13, List.forall_mem_cons.mpr ⟨lw_p14, List.forall_mem_cons.mpr ⟨lw_p15, fun _ h => absurd h List.not_mem_nil⟩⟩⟩⟩⟩⟩⟩⟩⟩⟩⟩⟩⟩⟩⟩⟩
theorem lw_p16 : lw_okq (⟨"PinwheelKernel$RoundingBuilder", "layWithBase", "(ILPinwheelKernel$Clients;LPinwheelKernel$Cycle;)Z"⟩, 1) := ⟨⟨by decide +kernel, by decide +kernel⟩, List.mem_of_getElem? (i := 36) (by decide +kernel), List.mem_of_getElem? (i := 403) (by decide +kernel), List.mem_of_getElem? (i := 404) (by decide +kernel)⟩
theorem lw_p17 : lw_okq (⟨"PinwheelKernel$RoundingBuilder", "roundAll", "(ILPinwheelKernel$Clients;)I"⟩, 1) := ⟨⟨by decide +kernel, by decide +kernel⟩, List.mem_of_getElem? (i := 36) (by decide +kernel), List.mem_of_getElem? (i := 407) (by decide +kernel), List.mem_of_getElem? (i := 408) (by decide +kernel)⟩
theorem lw_p18 : lw_okq (⟨"PinwheelKernel$RoundingBuilder", "placesNeeded", "(II)I"⟩, 1) := ⟨⟨by decide +kernel, by decide +kernel⟩, List.mem_of_getElem? (i := 36) (by decide +kernel), List.mem_of_getElem? (i := 417) (by decide +kernel), List.mem_of_getElem? (i := 418) (by decide +kernel)⟩
theorem lw_p19 : lw_okq (⟨"PinwheelKernel$Cycle", "makeRoom", "(I)V"⟩, 3) := ⟨⟨by decide +kernel, by decide +kernel⟩, List.mem_of_getElem? (i := 69) (by decide +kernel), List.mem_of_getElem? (i := 425) (by decide +kernel), List.mem_of_getElem? (i := 426) (by decide +kernel)⟩
theorem lw_p20 : lw_okq (⟨"PinwheelKernel$RoundingBuilder", "giveToAllWith", "(ILPinwheelKernel$Clients;LPinwheelKernel$Cycle;)V"⟩, 1) := ⟨⟨by decide +kernel, by decide +kernel⟩, List.mem_of_getElem? (i := 36) (by decide +kernel), List.mem_of_getElem? (i := 709) (by decide +kernel), List.mem_of_getElem? (i := 710) (by decide +kernel)⟩
theorem lw_p21 : lw_okq (⟨"PinwheelKernel$Cycle", "firstFree", "()I"⟩, 3) := ⟨⟨by decide +kernel, by decide +kernel⟩, List.mem_of_getElem? (i := 69) (by decide +kernel), List.mem_of_getElem? (i := 718) (by decide +kernel), List.mem_of_getElem? (i := 719) (by decide +kernel)⟩
theorem lw_p22 : lw_okq (⟨"PinwheelKernel$StateBuilder", "firstSafeTurn", "(I)I"⟩, 11) := ⟨⟨by decide +kernel, by decide +kernel⟩, List.mem_of_getElem? (i := 197) (by decide +kernel), List.mem_of_getElem? (i := 740) (by decide +kernel), List.mem_of_getElem? (i := 741) (by decide +kernel)⟩
theorem lw_p23 : lw_okq (⟨"PinwheelKernel$StateBuilder", "leadsToSafe", "(II)Z"⟩, 11) := ⟨⟨by decide +kernel, by decide +kernel⟩, List.mem_of_getElem? (i := 197) (by decide +kernel), List.mem_of_getElem? (i := 744) (by decide +kernel), List.mem_of_getElem? (i := 745) (by decide +kernel)⟩
theorem lw_p24 : lw_okq (⟨"PinwheelKernel$StateBuilder", "canServe", "(II)Z"⟩, 11) := ⟨⟨by decide +kernel, by decide +kernel⟩, List.mem_of_getElem? (i := 197) (by decide +kernel), List.mem_of_getElem? (i := 748) (by decide +kernel), List.mem_of_getElem? (i := 749) (by decide +kernel)⟩
theorem lw_p25 : lw_okq (⟨"PinwheelKernel$StateBuilder", "stateAfter", "(II)I"⟩, 11) := ⟨⟨by decide +kernel, by decide +kernel⟩, List.mem_of_getElem? (i := 197) (by decide +kernel), List.mem_of_getElem? (i := 752) (by decide +kernel), List.mem_of_getElem? (i := 753) (by decide +kernel)⟩
theorem lw_p26 : lw_okq (⟨"PinwheelKernel", "letWait", "(I)I"⟩, 11) := ⟨⟨by decide +kernel, by decide +kernel⟩, List.mem_of_getElem? (i := 28) (by decide +kernel), List.mem_of_getElem? (i := 761) (by decide +kernel), List.mem_of_getElem? (i := 762) (by decide +kernel)⟩
theorem lw_p27 : lw_okq (⟨"PinwheelKernel", "indexOf", "(I)I"⟩, 11) := ⟨⟨by decide +kernel, by decide +kernel⟩, List.mem_of_getElem? (i := 28) (by decide +kernel), List.mem_of_getElem? (i := 777) (by decide +kernel), List.mem_of_getElem? (i := 778) (by decide +kernel)⟩
theorem lw_p28 : lw_okq (⟨"PinwheelKernelModel", "find", "(I)I"⟩, 25) := ⟨⟨by decide +kernel, by decide +kernel⟩, List.mem_of_getElem? (i := 890) (by decide +kernel), List.mem_of_getElem? (i := 984) (by decide +kernel), List.mem_of_getElem? (i := 985) (by decide +kernel)⟩
theorem lw_p29 : lw_okq (⟨"PinwheelKernelModel", "refuse", "(ZZZ)Z"⟩, 25) := ⟨⟨by decide +kernel, by decide +kernel⟩, List.mem_of_getElem? (i := 890) (by decide +kernel), List.mem_of_getElem? (i := 988) (by decide +kernel), List.mem_of_getElem? (i := 989) (by decide +kernel)⟩
theorem lw_p30 : lw_okq (⟨"PinwheelKernelModel", "copySet", "(I)V"⟩, 25) := ⟨⟨by decide +kernel, by decide +kernel⟩, List.mem_of_getElem? (i := 890) (by decide +kernel), List.mem_of_getElem? (i := 992) (by decide +kernel), List.mem_of_getElem? (i := 993) (by decide +kernel)⟩
theorem lw_p31 : lw_okq (⟨"PinwheelKernelModel", "build", "()I"⟩, 25) := ⟨⟨by decide +kernel, by decide +kernel⟩, List.mem_of_getElem? (i := 890) (by decide +kernel), List.mem_of_getElem? (i := 996) (by decide +kernel), List.mem_of_getElem? (i := 997) (by decide +kernel)⟩
def lw_privs_2 : List (MethodName × Nat) := [(⟨"PinwheelKernel$RoundingBuilder", "layWithBase", "(ILPinwheelKernel$Clients;LPinwheelKernel$Cycle;)Z"⟩, 1), (⟨"PinwheelKernel$RoundingBuilder", "roundAll", "(ILPinwheelKernel$Clients;)I"⟩, 1), (⟨"PinwheelKernel$RoundingBuilder", "placesNeeded", "(II)I"⟩, 1), (⟨"PinwheelKernel$Cycle", "makeRoom", "(I)V"⟩, 3), (⟨"PinwheelKernel$RoundingBuilder", "giveToAllWith", "(ILPinwheelKernel$Clients;LPinwheelKernel$Cycle;)V"⟩, 1), (⟨"PinwheelKernel$Cycle", "firstFree", "()I"⟩, 3), (⟨"PinwheelKernel$StateBuilder", "firstSafeTurn", "(I)I"⟩, 11), (⟨"PinwheelKernel$StateBuilder", "leadsToSafe", "(II)Z"⟩, 11), (⟨"PinwheelKernel$StateBuilder", "canServe", "(II)Z"⟩, 11), (⟨"PinwheelKernel$StateBuilder", "stateAfter", "(II)I"⟩, 11), (⟨"PinwheelKernel", "letWait", "(I)I"⟩, 11), (⟨"PinwheelKernel", "indexOf", "(I)I"⟩, 11), (⟨"PinwheelKernelModel", "find", "(I)I"⟩, 25), (⟨"PinwheelKernelModel", "refuse", "(ZZZ)Z"⟩, 25), (⟨"PinwheelKernelModel", "copySet", "(I)V"⟩, 25), (⟨"PinwheelKernelModel", "build", "()I"⟩, 25)]
theorem lw_r2 : ∀ q ∈ lw_privs_2, lw_okq q := List.forall_mem_cons.mpr ⟨lw_p16, List.forall_mem_cons.mpr ⟨lw_p17, List.forall_mem_cons.mpr ⟨lw_p18, List.forall_mem_cons.mpr ⟨lw_p19, List.forall_mem_cons.mpr ⟨lw_p20, List.forall_mem_cons.mpr ⟨lw_p21, List.forall_mem_cons.mpr ⟨lw_p22, List.forall_mem_cons.mpr ⟨lw_p23, List.forall_mem_cons.mpr ⟨lw_p24, List.forall_mem_cons.mpr ⟨lw_p25, List.forall_mem_cons.mpr ⟨lw_p26, List.forall_mem_cons.mpr ⟨lw_p27, List.forall_mem_cons.mpr ⟨lw_p28, List.forall_mem_cons.mpr ⟨lw_p29, List.forall_mem_cons.mpr ⟨lw_p30, List.forall_mem_cons.mpr ⟨lw_p31, fun _ h => absurd h List.not_mem_nil⟩⟩⟩⟩⟩⟩⟩⟩⟩⟩⟩⟩⟩⟩⟩⟩
theorem lw_p32 : lw_okq (⟨"PinwheelKernelModel", "lay", "(I)Z"⟩, 25) := ⟨⟨by decide +kernel, by decide +kernel⟩, List.mem_of_getElem? (i := 890) (by decide +kernel), List.mem_of_getElem? (i := 1000) (by decide +kernel), List.mem_of_getElem? (i := 1001) (by decide +kernel)⟩
theorem lw_p33 : lw_okq (⟨"PinwheelKernelModel", "arrange", "(I)V"⟩, 25) := ⟨⟨by decide +kernel, by decide +kernel⟩, List.mem_of_getElem? (i := 890) (by decide +kernel), List.mem_of_getElem? (i := 1004) (by decide +kernel), List.mem_of_getElem? (i := 1005) (by decide +kernel)⟩
theorem lw_p34 : lw_okq (⟨"PinwheelKernelModel", "byBases", "()Z"⟩, 25) := ⟨⟨by decide +kernel, by decide +kernel⟩, List.mem_of_getElem? (i := 890) (by decide +kernel), List.mem_of_getElem? (i := 1011) (by decide +kernel), List.mem_of_getElem? (i := 1012) (by decide +kernel)⟩
theorem lw_p35 : lw_okq (⟨"PinwheelKernelModel", "leastSpan", "()I"⟩, 25) := ⟨⟨by decide +kernel, by decide +kernel⟩, List.mem_of_getElem? (i := 890) (by decide +kernel), List.mem_of_getElem? (i := 1015) (by decide +kernel), List.mem_of_getElem? (i := 1016) (by decide +kernel)⟩
theorem lw_p36 : lw_okq (⟨"PinwheelKernelModel", "byStates", "()Z"⟩, 25) := ⟨⟨by decide +kernel, by decide +kernel⟩, List.mem_of_getElem? (i := 890) (by decide +kernel), List.mem_of_getElem? (i := 1019) (by decide +kernel), List.mem_of_getElem? (i := 1020) (by decide +kernel)⟩
theorem lw_p37 : lw_okq (⟨"PinwheelKernelModel", "product", "()I"⟩, 25) := ⟨⟨by decide +kernel, by decide +kernel⟩, List.mem_of_getElem? (i := 890) (by decide +kernel), List.mem_of_getElem? (i := 1023) (by decide +kernel), List.mem_of_getElem? (i := 1024) (by decide +kernel)⟩
theorem lw_p38 : lw_okq (⟨"PinwheelKernelModel", "isSafe", "(I)Z"⟩, 25) := ⟨⟨by decide +kernel, by decide +kernel⟩, List.mem_of_getElem? (i := 890) (by decide +kernel), List.mem_of_getElem? (i := 1027) (by decide +kernel), List.mem_of_getElem? (i := 1028) (by decide +kernel)⟩
theorem lw_p39 : lw_okq (⟨"PinwheelKernelModel", "good", "(I)I"⟩, 25) := ⟨⟨by decide +kernel, by decide +kernel⟩, List.mem_of_getElem? (i := 890) (by decide +kernel), List.mem_of_getElem? (i := 1031) (by decide +kernel), List.mem_of_getElem? (i := 1032) (by decide +kernel)⟩
theorem lw_p40 : lw_okq (⟨"PinwheelKernelModel", "after", "(II)I"⟩, 25) := ⟨⟨by decide +kernel, by decide +kernel⟩, List.mem_of_getElem? (i := 890) (by decide +kernel), List.mem_of_getElem? (i := 1035) (by decide +kernel), List.mem_of_getElem? (i := 1036) (by decide +kernel)⟩
theorem lw_p41 : lw_okq (⟨"PinwheelKernelModel", "open", "(I)V"⟩, 25) := ⟨⟨by decide +kernel, by decide +kernel⟩, List.mem_of_getElem? (i := 890) (by decide +kernel), List.mem_of_getElem? (i := 1039) (by decide +kernel), List.mem_of_getElem? (i := 1040) (by decide +kernel)⟩
theorem lw_p42 : lw_okq (⟨"PinwheelKernelModel", "lookForSeam", "()V"⟩, 25) := ⟨⟨by decide +kernel, by decide +kernel⟩, List.mem_of_getElem? (i := 890) (by decide +kernel), List.mem_of_getElem? (i := 1051) (by decide +kernel), List.mem_of_getElem? (i := 1052) (by decide +kernel)⟩
theorem lw_p43 : lw_okq (⟨"PinwheelKernelModel", "isSeam", "(I)Z"⟩, 25) := ⟨⟨by decide +kernel, by decide +kernel⟩, List.mem_of_getElem? (i := 890) (by decide +kernel), List.mem_of_getElem? (i := 1055) (by decide +kernel), List.mem_of_getElem? (i := 1056) (by decide +kernel)⟩
theorem lw_p44 : lw_okq (⟨"PinwheelKernelModel", "takeOver", "(I)V"⟩, 25) := ⟨⟨by decide +kernel, by decide +kernel⟩, List.mem_of_getElem? (i := 890) (by decide +kernel), List.mem_of_getElem? (i := 1059) (by decide +kernel), List.mem_of_getElem? (i := 1060) (by decide +kernel)⟩
def lw_privs_3 : List (MethodName × Nat) := [(⟨"PinwheelKernelModel", "lay", "(I)Z"⟩, 25), (⟨"PinwheelKernelModel", "arrange", "(I)V"⟩, 25), (⟨"PinwheelKernelModel", "byBases", "()Z"⟩, 25), (⟨"PinwheelKernelModel", "leastSpan", "()I"⟩, 25), (⟨"PinwheelKernelModel", "byStates", "()Z"⟩, 25), (⟨"PinwheelKernelModel", "product", "()I"⟩, 25), (⟨"PinwheelKernelModel", "isSafe", "(I)Z"⟩, 25), (⟨"PinwheelKernelModel", "good", "(I)I"⟩, 25), (⟨"PinwheelKernelModel", "after", "(II)I"⟩, 25), (⟨"PinwheelKernelModel", "open", "(I)V"⟩, 25), (⟨"PinwheelKernelModel", "lookForSeam", "()V"⟩, 25), (⟨"PinwheelKernelModel", "isSeam", "(I)Z"⟩, 25), (⟨"PinwheelKernelModel", "takeOver", "(I)V"⟩, 25)]
theorem lw_r3 : ∀ q ∈ lw_privs_3, lw_okq q := List.forall_mem_cons.mpr ⟨lw_p32, List.forall_mem_cons.mpr ⟨lw_p33, List.forall_mem_cons.mpr ⟨lw_p34, List.forall_mem_cons.mpr ⟨lw_p35, List.forall_mem_cons.mpr ⟨lw_p36, List.forall_mem_cons.mpr ⟨lw_p37, List.forall_mem_cons.mpr ⟨lw_p38, List.forall_mem_cons.mpr ⟨lw_p39, List.forall_mem_cons.mpr ⟨lw_p40, List.forall_mem_cons.mpr ⟨lw_p41, List.forall_mem_cons.mpr ⟨lw_p42, List.forall_mem_cons.mpr ⟨lw_p43, List.forall_mem_cons.mpr ⟨lw_p44, fun _ h => absurd h List.not_mem_nil⟩⟩⟩⟩⟩⟩⟩⟩⟩⟩⟩⟩⟩
def lw_privs : List (MethodName × Nat) := lw_privs_1 ++ (lw_privs_2 ++ (lw_privs_3))
def lw_tbl : List Cond := k2_sels lw_privs ++ tables_1
theorem lw_privs_ok : ∀ q ∈ lw_privs, lw_okq q := by
  show ∀ q ∈ lw_privs_1 ++ (lw_privs_2 ++ (lw_privs_3)), lw_okq q
  exact List.forall_mem_append.mpr ⟨lw_r1, List.forall_mem_append.mpr ⟨lw_r2, lw_r3⟩⟩
def s_us : String := "un" ++ "safe"
/-- those of the words that stay when the tables grow warmer -/
def mw : List Cond := lw_tbl.filter goodWord
theorem mw_in {w : Cond} (h : w ∈ lw_tbl) (g : goodWord w = true) : w ∈ mw := List.mem_filter.mpr ⟨h, g⟩
theorem mw_good : ∀ w ∈ mw, (w.onTables && w.keeps) = true ∨ ∃ ty, w = .arrayClass ty := fun _ h => good_of_word (List.mem_filter.mp h).2
theorem wd_0 : (Jvm.Cond.initialized "PinwheelKernelLaw") ∈ mw := mw_in (List.mem_append_right _ (List.mem_append_left _ (List.mem_of_getElem? (i := 0) rfl))) rfl
theorem wd_1 : (Jvm.Cond.initialized "PinwheelKernel") ∈ mw := mw_in (List.mem_append_right _ (List.mem_append_left _ (List.mem_of_getElem? (i := 1) rfl))) rfl
theorem wd_2 : (Jvm.Cond.initialized "PinwheelKernel$RoundingBuilder") ∈ mw := mw_in (List.mem_append_right _ (List.mem_append_left _ (List.mem_of_getElem? (i := 2) rfl))) rfl
theorem wd_3 : (Jvm.Cond.initialized "PinwheelKernel$Clients") ∈ mw := mw_in (List.mem_append_right _ (List.mem_append_left _ (List.mem_of_getElem? (i := 3) rfl))) rfl
theorem wd_4 : (Jvm.Cond.initialized "PinwheelKernel$Cycle") ∈ mw := mw_in (List.mem_append_right _ (List.mem_append_left _ (List.mem_of_getElem? (i := 4) rfl))) rfl
theorem wd_5 : (Jvm.Cond.initialized "PinwheelKernelModel") ∈ mw := mw_in (List.mem_append_right _ (List.mem_append_left _ (List.mem_of_getElem? (i := 5) rfl))) rfl
theorem wd_6 : (Jvm.Cond.initialized "java/lang/Throwable") ∈ mw := mw_in (List.mem_append_right _ (List.mem_append_left _ (List.mem_of_getElem? (i := 6) rfl))) rfl
theorem wd_7 : (Jvm.Cond.initialized "java/lang/Exception") ∈ mw := mw_in (List.mem_append_right _ (List.mem_append_left _ (List.mem_of_getElem? (i := 7) rfl))) rfl
theorem wd_8 : (Jvm.Cond.initialized "java/lang/RuntimeException") ∈ mw := mw_in (List.mem_append_right _ (List.mem_append_left _ (List.mem_of_getElem? (i := 8) rfl))) rfl
theorem wd_9 : (Jvm.Cond.initialized "java/lang/IllegalArgumentException") ∈ mw := mw_in (List.mem_append_right _ (List.mem_append_left _ (List.mem_of_getElem? (i := 9) rfl))) rfl
theorem wd_10 : (Jvm.Cond.initialized "java/lang/IllegalStateException") ∈ mw := mw_in (List.mem_append_right _ (List.mem_append_left _ (List.mem_of_getElem? (i := 10) rfl))) rfl
theorem wd_11 : (Jvm.Cond.initialized "java/lang/UnsupportedOperationException") ∈ mw := mw_in (List.mem_append_right _ (List.mem_append_left _ (List.mem_of_getElem? (i := 11) rfl))) rfl
theorem wd_12 : (Jvm.Cond.initialized "java/lang/Math") ∈ mw := mw_in (List.mem_append_right _ (List.mem_append_left _ (List.mem_of_getElem? (i := 12) rfl))) rfl
theorem wd_13 : (Jvm.Cond.initialized "java/util/Arrays") ∈ mw := mw_in (List.mem_append_right _ (List.mem_append_left _ (List.mem_of_getElem? (i := 13) rfl))) rfl
theorem wd_18 : (Jvm.Cond.initialized "jdk/internal/util/ArraysSupport") ∈ mw := mw_in (List.mem_append_right _ (List.mem_append_left _ (List.mem_of_getElem? (i := 18) rfl))) rfl
theorem wd_19 : (Jvm.Cond.initialized "java/lang/System") ∈ mw := mw_in (List.mem_append_right _ (List.mem_append_left _ (List.mem_of_getElem? (i := 19) rfl))) rfl
theorem wd_23 : (Jvm.Cond.initialized "java/lang/IndexOutOfBoundsException") ∈ mw := mw_in (List.mem_append_right _ (List.mem_append_left _ (List.mem_of_getElem? (i := 23) rfl))) rfl
theorem wd_24 : (Jvm.Cond.initialized "java/lang/ArrayIndexOutOfBoundsException") ∈ mw := mw_in (List.mem_append_right _ (List.mem_append_left _ (List.mem_of_getElem? (i := 24) rfl))) rfl
theorem wd_25 : (Jvm.Cond.initialized "PinwheelKernel$StateBuilder") ∈ mw := mw_in (List.mem_append_right _ (List.mem_append_left _ (List.mem_of_getElem? (i := 25) rfl))) rfl
theorem wd_26 : (Jvm.Cond.initialized "java/util/NoSuchElementException") ∈ mw := mw_in (List.mem_append_right _ (List.mem_append_left _ (List.mem_of_getElem? (i := 26) rfl))) rfl
theorem wd_27 : (Jvm.Cond.classLink "PinwheelKernelLaw" (8 : Nat) "PinwheelKernel") ∈ mw := mw_in (List.mem_append_right _ (List.mem_append_left _ (List.mem_of_getElem? (i := 27) rfl))) rfl
theorem wd_28 : (Jvm.Cond.instantiable "PinwheelKernel" (11 : Nat)) ∈ mw := mw_in (List.mem_append_right _ (List.mem_append_left _ (List.mem_of_getElem? (i := 28) rfl))) rfl
theorem wd_29 : (Jvm.Cond.methodLink "PinwheelKernelLaw" (54 : Nat) ({ cls := "PinwheelKernel", name := "<init>", desc := "()V" } : Jvm.MethodName)) ∈ mw := mw_in (List.mem_append_right _ (List.mem_append_left _ (List.mem_of_getElem? (i := 29) rfl))) rfl
theorem wd_30 : (Jvm.Cond.instanceMethod ({ cls := "PinwheelKernel", name := "<init>", desc := "()V" } : Jvm.MethodName)) ∈ mw := mw_in (List.mem_append_right _ (List.mem_append_left _ (List.mem_of_getElem? (i := 30) rfl))) rfl
theorem wd_31 : (Jvm.Cond.code ({ cls := "PinwheelKernel", name := "<init>", desc := "()V" } : Jvm.MethodName) prog_1_method_1_code (1 : Nat) (Option.none : Option Jvm.ClassFile.FieldType)) ∈ mw := mw_in (List.mem_append_right _ (List.mem_append_left _ (List.mem_of_getElem? (i := 31) rfl))) rfl
theorem wd_32 : (Jvm.Cond.methodLink "PinwheelKernel" (1 : Nat) ({ cls := "java/lang/Object", name := "<init>", desc := "()V" } : Jvm.MethodName)) ∈ mw := mw_in (List.mem_append_right _ (List.mem_append_left _ (List.mem_of_getElem? (i := 32) rfl))) rfl
theorem wd_33 : (Jvm.Cond.instanceMethod ({ cls := "java/lang/Object", name := "<init>", desc := "()V" } : Jvm.MethodName)) ∈ mw := mw_in (List.mem_append_right _ (List.mem_append_left _ (List.mem_of_getElem? (i := 33) rfl))) rfl
theorem wd_34 : (Jvm.Cond.code ({ cls := "java/lang/Object", name := "<init>", desc := "()V" } : Jvm.MethodName) object_method_1_code (1 : Nat) (Option.none : Option Jvm.ClassFile.FieldType)) ∈ mw := mw_in (List.mem_append_right _ (List.mem_append_left _ (List.mem_of_getElem? (i := 34) rfl))) rfl
theorem wd_35 : (Jvm.Cond.classLink "PinwheelKernel" (7 : Nat) "PinwheelKernel$RoundingBuilder") ∈ mw := mw_in (List.mem_append_right _ (List.mem_append_left _ (List.mem_of_getElem? (i := 35) rfl))) rfl
theorem wd_36 : (Jvm.Cond.instantiable "PinwheelKernel$RoundingBuilder" (1 : Nat)) ∈ mw := mw_in (List.mem_append_right _ (List.mem_append_left _ (List.mem_of_getElem? (i := 36) rfl))) rfl
theorem wd_38 : (Jvm.Cond.instanceMethod ({ cls := "PinwheelKernel$RoundingBuilder", name := "<init>", desc := "()V" } : Jvm.MethodName)) ∈ mw := mw_in (List.mem_append_right _ (List.mem_append_left _ (List.mem_of_getElem? (i := 38) rfl))) rfl
theorem wd_39 : (Jvm.Cond.code ({ cls := "PinwheelKernel$RoundingBuilder", name := "<init>", desc := "()V" } : Jvm.MethodName) prog_4_method_1_code (1 : Nat) (Option.none : Option Jvm.ClassFile.FieldType)) ∈ mw := mw_in (List.mem_append_right _ (List.mem_append_left _ (List.mem_of_getElem? (i := 39) rfl))) rfl
theorem wd_40 : (Jvm.Cond.methodLink "PinwheelKernel$RoundingBuilder" (3 : Nat) ({ cls := "java/lang/Object", name := "<init>", desc := "()V" } : Jvm.MethodName)) ∈ mw := mw_in (List.mem_append_right _ (List.mem_append_left _ (List.mem_of_getElem? (i := 40) rfl))) rfl
theorem wd_41 : (Jvm.Cond.fieldLink "PinwheelKernel$RoundingBuilder" (9 : Nat) "PinwheelKernel$RoundingBuilder" "rounded" "[I") ∈ mw := mw_in (List.mem_append_right _ (List.mem_append_left _ (List.mem_of_getElem? (i := 41) rfl))) rfl
theorem wd_42 : (Jvm.Cond.laysFinal "PinwheelKernel$RoundingBuilder" "PinwheelKernel$RoundingBuilder" "rounded" "[I") ∈ mw := mw_in (List.mem_append_right _ (List.mem_append_left _ (List.mem_of_getElem? (i := 42) rfl))) rfl
theorem wd_44 : (Jvm.Cond.superclass "PinwheelKernel$RoundingBuilder" "java/lang/Object") ∈ mw := mw_in (List.mem_append_right _ (List.mem_append_left _ (List.mem_of_getElem? (i := 44) rfl))) rfl
theorem wd_45 : (Jvm.Cond.arrayClass Jvm.ClassFile.FieldType.int) ∈ mw := mw_in (List.mem_append_right _ (List.mem_append_left _ (List.mem_of_getElem? (i := 45) rfl))) rfl
theorem wd_46 : (Jvm.Cond.classLink "PinwheelKernel" (20 : Nat) "PinwheelKernel$Clients") ∈ mw := mw_in (List.mem_append_right _ (List.mem_append_left _ (List.mem_of_getElem? (i := 46) rfl))) rfl
theorem wd_47 : (Jvm.Cond.instantiable "PinwheelKernel$Clients" (5 : Nat)) ∈ mw := mw_in (List.mem_append_right _ (List.mem_append_left _ (List.mem_of_getElem? (i := 47) rfl))) rfl
theorem wd_49 : (Jvm.Cond.instanceMethod ({ cls := "PinwheelKernel$Clients", name := "<init>", desc := "()V" } : Jvm.MethodName)) ∈ mw := mw_in (List.mem_append_right _ (List.mem_append_left _ (List.mem_of_getElem? (i := 49) rfl))) rfl
theorem wd_50 : (Jvm.Cond.code ({ cls := "PinwheelKernel$Clients", name := "<init>", desc := "()V" } : Jvm.MethodName) prog_2_method_1_code (1 : Nat) (Option.none : Option Jvm.ClassFile.FieldType)) ∈ mw := mw_in (List.mem_append_right _ (List.mem_append_left _ (List.mem_of_getElem? (i := 50) rfl))) rfl
theorem wd_51 : (Jvm.Cond.methodLink "PinwheelKernel$Clients" (3 : Nat) ({ cls := "java/lang/Object", name := "<init>", desc := "()V" } : Jvm.MethodName)) ∈ mw := mw_in (List.mem_append_right _ (List.mem_append_left _ (List.mem_of_getElem? (i := 51) rfl))) rfl
theorem wd_52 : (Jvm.Cond.fieldLink "PinwheelKernel$Clients" (9 : Nat) "PinwheelKernel$Clients" "ids" "[I") ∈ mw := mw_in (List.mem_append_right _ (List.mem_append_left _ (List.mem_of_getElem? (i := 52) rfl))) rfl
theorem wd_53 : (Jvm.Cond.fieldLink "PinwheelKernel$Clients" (15 : Nat) "PinwheelKernel$Clients" "spans" "[I") ∈ mw := mw_in (List.mem_append_right _ (List.mem_append_left _ (List.mem_of_getElem? (i := 53) rfl))) rfl
theorem wd_54 : (Jvm.Cond.fieldLink "PinwheelKernel$Clients" (18 : Nat) "PinwheelKernel$Clients" "waits" "[I") ∈ mw := mw_in (List.mem_append_right _ (List.mem_append_left _ (List.mem_of_getElem? (i := 54) rfl))) rfl
theorem wd_55 : (Jvm.Cond.fieldLink "PinwheelKernel$Clients" (21 : Nat) "PinwheelKernel$Clients" "worsts" "[I") ∈ mw := mw_in (List.mem_append_right _ (List.mem_append_left _ (List.mem_of_getElem? (i := 55) rfl))) rfl
theorem wd_56 : (Jvm.Cond.fieldLink "PinwheelKernel$Clients" (24 : Nat) "PinwheelKernel$Clients" "count" "I") ∈ mw := mw_in (List.mem_append_right _ (List.mem_append_left _ (List.mem_of_getElem? (i := 56) rfl))) rfl
theorem wd_57 : (Jvm.Cond.laysFinal "PinwheelKernel$Clients" "PinwheelKernel$Clients" "ids" "[I") ∈ mw := mw_in (List.mem_append_right _ (List.mem_append_left _ (List.mem_of_getElem? (i := 57) rfl))) rfl
theorem wd_59 : (Jvm.Cond.laysFinal "PinwheelKernel$Clients" "PinwheelKernel$Clients" "spans" "[I") ∈ mw := mw_in (List.mem_append_right _ (List.mem_append_left _ (List.mem_of_getElem? (i := 59) rfl))) rfl
theorem wd_61 : (Jvm.Cond.laysFinal "PinwheelKernel$Clients" "PinwheelKernel$Clients" "waits" "[I") ∈ mw := mw_in (List.mem_append_right _ (List.mem_append_left _ (List.mem_of_getElem? (i := 61) rfl))) rfl
theorem wd_63 : (Jvm.Cond.laysFinal "PinwheelKernel$Clients" "PinwheelKernel$Clients" "worsts" "[I") ∈ mw := mw_in (List.mem_append_right _ (List.mem_append_left _ (List.mem_of_getElem? (i := 63) rfl))) rfl
theorem wd_65 : (Jvm.Cond.lays "PinwheelKernel$Clients" "PinwheelKernel$Clients" "count" "I") ∈ mw := mw_in (List.mem_append_right _ (List.mem_append_left _ (List.mem_of_getElem? (i := 65) rfl))) rfl
theorem wd_67 : (Jvm.Cond.superclass "PinwheelKernel$Clients" "java/lang/Object") ∈ mw := mw_in (List.mem_append_right _ (List.mem_append_left _ (List.mem_of_getElem? (i := 67) rfl))) rfl
theorem wd_68 : (Jvm.Cond.classLink "PinwheelKernel" (30 : Nat) "PinwheelKernel$Cycle") ∈ mw := mw_in (List.mem_append_right _ (List.mem_append_left _ (List.mem_of_getElem? (i := 68) rfl))) rfl
theorem wd_69 : (Jvm.Cond.instantiable "PinwheelKernel$Cycle" (3 : Nat)) ∈ mw := mw_in (List.mem_append_right _ (List.mem_append_left _ (List.mem_of_getElem? (i := 69) rfl))) rfl
theorem wd_71 : (Jvm.Cond.instanceMethod ({ cls := "PinwheelKernel$Cycle", name := "<init>", desc := "()V" } : Jvm.MethodName)) ∈ mw := mw_in (List.mem_append_right _ (List.mem_append_left _ (List.mem_of_getElem? (i := 71) rfl))) rfl
theorem wd_72 : (Jvm.Cond.code ({ cls := "PinwheelKernel$Cycle", name := "<init>", desc := "()V" } : Jvm.MethodName) prog_3_method_1_code (1 : Nat) (Option.none : Option Jvm.ClassFile.FieldType)) ∈ mw := mw_in (List.mem_append_right _ (List.mem_append_left _ (List.mem_of_getElem? (i := 72) rfl))) rfl
theorem wd_73 : (Jvm.Cond.methodLink "PinwheelKernel$Cycle" (3 : Nat) ({ cls := "java/lang/Object", name := "<init>", desc := "()V" } : Jvm.MethodName)) ∈ mw := mw_in (List.mem_append_right _ (List.mem_append_left _ (List.mem_of_getElem? (i := 73) rfl))) rfl
theorem wd_74 : (Jvm.Cond.fieldLink "PinwheelKernel$Cycle" (9 : Nat) "PinwheelKernel$Cycle" "places" "[I") ∈ mw := mw_in (List.mem_append_right _ (List.mem_append_left _ (List.mem_of_getElem? (i := 74) rfl))) rfl
theorem wd_75 : (Jvm.Cond.fieldLink "PinwheelKernel$Cycle" (15 : Nat) "PinwheelKernel$Cycle" "length" "I") ∈ mw := mw_in (List.mem_append_right _ (List.mem_append_left _ (List.mem_of_getElem? (i := 75) rfl))) rfl
theorem wd_76 : (Jvm.Cond.fieldLink "PinwheelKernel$Cycle" (19 : Nat) "PinwheelKernel$Cycle" "builder" "I") ∈ mw := mw_in (List.mem_append_right _ (List.mem_append_left _ (List.mem_of_getElem? (i := 76) rfl))) rfl
theorem wd_77 : (Jvm.Cond.lays "PinwheelKernel$Cycle" "PinwheelKernel$Cycle" "places" "[I") ∈ mw := mw_in (List.mem_append_right _ (List.mem_append_left _ (List.mem_of_getElem? (i := 77) rfl))) rfl
theorem wd_79 : (Jvm.Cond.lays "PinwheelKernel$Cycle" "PinwheelKernel$Cycle" "length" "I") ∈ mw := mw_in (List.mem_append_right _ (List.mem_append_left _ (List.mem_of_getElem? (i := 79) rfl))) rfl
theorem wd_81 : (Jvm.Cond.lays "PinwheelKernel$Cycle" "PinwheelKernel$Cycle" "builder" "I") ∈ mw := mw_in (List.mem_append_right _ (List.mem_append_left _ (List.mem_of_getElem? (i := 81) rfl))) rfl
theorem wd_83 : (Jvm.Cond.superclass "PinwheelKernel$Cycle" "java/lang/Object") ∈ mw := mw_in (List.mem_append_right _ (List.mem_append_left _ (List.mem_of_getElem? (i := 83) rfl))) rfl
theorem wd_84 : (Jvm.Cond.fieldLink "PinwheelKernel" (10 : Nat) "PinwheelKernel" "rounding" "LPinwheelKernel$RoundingBuilder;") ∈ mw := mw_in (List.mem_append_right _ (List.mem_append_left _ (List.mem_of_getElem? (i := 84) rfl))) rfl
theorem wd_85 : (Jvm.Cond.fieldLink "PinwheelKernel" (16 : Nat) "PinwheelKernel" "states" "LPinwheelKernel$StateBuilder;") ∈ mw := mw_in (List.mem_append_right _ (List.mem_append_left _ (List.mem_of_getElem? (i := 85) rfl))) rfl
theorem wd_86 : (Jvm.Cond.fieldLink "PinwheelKernel" (23 : Nat) "PinwheelKernel" "present" "LPinwheelKernel$Clients;") ∈ mw := mw_in (List.mem_append_right _ (List.mem_append_left _ (List.mem_of_getElem? (i := 86) rfl))) rfl
theorem wd_87 : (Jvm.Cond.fieldLink "PinwheelKernel" (27 : Nat) "PinwheelKernel" "planned" "LPinwheelKernel$Clients;") ∈ mw := mw_in (List.mem_append_right _ (List.mem_append_left _ (List.mem_of_getElem? (i := 87) rfl))) rfl
theorem wd_88 : (Jvm.Cond.fieldLink "PinwheelKernel" (33 : Nat) "PinwheelKernel" "inForce" "LPinwheelKernel$Cycle;") ∈ mw := mw_in (List.mem_append_right _ (List.mem_append_left _ (List.mem_of_getElem? (i := 88) rfl))) rfl
theorem wd_89 : (Jvm.Cond.fieldLink "PinwheelKernel" (37 : Nat) "PinwheelKernel" "spare" "LPinwheelKernel$Cycle;") ∈ mw := mw_in (List.mem_append_right _ (List.mem_append_left _ (List.mem_of_getElem? (i := 89) rfl))) rfl
theorem wd_90 : (Jvm.Cond.fieldLink "PinwheelKernel" (40 : Nat) "PinwheelKernel" "spareWaits" "Z") ∈ mw := mw_in (List.mem_append_right _ (List.mem_append_left _ (List.mem_of_getElem? (i := 90) rfl))) rfl
theorem wd_91 : (Jvm.Cond.fieldLink "PinwheelKernel" (44 : Nat) "PinwheelKernel" "place" "I") ∈ mw := mw_in (List.mem_append_right _ (List.mem_append_left _ (List.mem_of_getElem? (i := 91) rfl))) rfl
theorem wd_92 : (Jvm.Cond.fieldLink "PinwheelKernel" (48 : Nat) "PinwheelKernel" "wished" "I") ∈ mw := mw_in (List.mem_append_right _ (List.mem_append_left _ (List.mem_of_getElem? (i := 92) rfl))) rfl
theorem wd_93 : (Jvm.Cond.fieldLink "PinwheelKernel" (51 : Nat) "PinwheelKernel" "vainLooks" "I") ∈ mw := mw_in (List.mem_append_right _ (List.mem_append_left _ (List.mem_of_getElem? (i := 93) rfl))) rfl
theorem wd_94 : (Jvm.Cond.fieldLink "PinwheelKernel" (54 : Nat) "PinwheelKernel" "slots" "I") ∈ mw := mw_in (List.mem_append_right _ (List.mem_append_left _ (List.mem_of_getElem? (i := 94) rfl))) rfl
theorem wd_95 : (Jvm.Cond.laysFinal "PinwheelKernel" "PinwheelKernel" "rounding" "LPinwheelKernel$RoundingBuilder;") ∈ mw := mw_in (List.mem_append_right _ (List.mem_append_left _ (List.mem_of_getElem? (i := 95) rfl))) rfl
theorem wd_97 : (Jvm.Cond.lays "PinwheelKernel" "PinwheelKernel" "states" "LPinwheelKernel$StateBuilder;") ∈ mw := mw_in (List.mem_append_right _ (List.mem_append_left _ (List.mem_of_getElem? (i := 97) rfl))) rfl
theorem wd_99 : (Jvm.Cond.lays "PinwheelKernel" "PinwheelKernel" "present" "LPinwheelKernel$Clients;") ∈ mw := mw_in (List.mem_append_right _ (List.mem_append_left _ (List.mem_of_getElem? (i := 99) rfl))) rfl
theorem wd_101 : (Jvm.Cond.lays "PinwheelKernel" "PinwheelKernel" "planned" "LPinwheelKernel$Clients;") ∈ mw := mw_in (List.mem_append_right _ (List.mem_append_left _ (List.mem_of_getElem? (i := 101) rfl))) rfl
theorem wd_103 : (Jvm.Cond.lays "PinwheelKernel" "PinwheelKernel" "inForce" "LPinwheelKernel$Cycle;") ∈ mw := mw_in (List.mem_append_right _ (List.mem_append_left _ (List.mem_of_getElem? (i := 103) rfl))) rfl
theorem wd_105 : (Jvm.Cond.lays "PinwheelKernel" "PinwheelKernel" "spare" "LPinwheelKernel$Cycle;") ∈ mw := mw_in (List.mem_append_right _ (List.mem_append_left _ (List.mem_of_getElem? (i := 105) rfl))) rfl
theorem wd_107 : (Jvm.Cond.lays "PinwheelKernel" "PinwheelKernel" "spareWaits" "Z") ∈ mw := mw_in (List.mem_append_right _ (List.mem_append_left _ (List.mem_of_getElem? (i := 107) rfl))) rfl
theorem wd_109 : (Jvm.Cond.lays "PinwheelKernel" "PinwheelKernel" "place" "I") ∈ mw := mw_in (List.mem_append_right _ (List.mem_append_left _ (List.mem_of_getElem? (i := 109) rfl))) rfl
theorem wd_111 : (Jvm.Cond.lays "PinwheelKernel" "PinwheelKernel" "wished" "I") ∈ mw := mw_in (List.mem_append_right _ (List.mem_append_left _ (List.mem_of_getElem? (i := 111) rfl))) rfl
theorem wd_113 : (Jvm.Cond.lays "PinwheelKernel" "PinwheelKernel" "vainLooks" "I") ∈ mw := mw_in (List.mem_append_right _ (List.mem_append_left _ (List.mem_of_getElem? (i := 113) rfl))) rfl
theorem wd_115 : (Jvm.Cond.lays "PinwheelKernel" "PinwheelKernel" "slots" "I") ∈ mw := mw_in (List.mem_append_right _ (List.mem_append_left _ (List.mem_of_getElem? (i := 115) rfl))) rfl
theorem wd_117 : (Jvm.Cond.superclass "PinwheelKernel" "java/lang/Object") ∈ mw := mw_in (List.mem_append_right _ (List.mem_append_left _ (List.mem_of_getElem? (i := 117) rfl))) rfl
theorem wd_118 : (Jvm.Cond.methodLink "PinwheelKernelLaw" (72 : Nat) ({ cls := "PinwheelKernel", name := "slot", desc := "()I" } : Jvm.MethodName)) ∈ mw := mw_in (List.mem_append_right _ (List.mem_append_left _ (List.mem_of_getElem? (i := 118) rfl))) rfl
theorem wd_119 : (Jvm.Cond.instanceMethod ({ cls := "PinwheelKernel", name := "slot", desc := "()I" } : Jvm.MethodName)) ∈ mw := mw_in (List.mem_append_right _ (List.mem_append_left _ (List.mem_of_getElem? (i := 119) rfl))) rfl
theorem wd_120 : (Jvm.Cond.selects "PinwheelKernel" ({ cls := "PinwheelKernel", name := "slot", desc := "()I" } : Jvm.MethodName) ({ cls := "PinwheelKernel", name := "slot", desc := "()I" } : Jvm.MethodName)) ∈ mw := mw_in (List.mem_append_right _ (List.mem_append_left _ (List.mem_of_getElem? (i := 120) rfl))) rfl
theorem wd_121 : (Jvm.Cond.code ({ cls := "PinwheelKernel", name := "slot", desc := "()I" } : Jvm.MethodName) prog_1_method_4_code (2 : Nat) (Option.some Jvm.ClassFile.FieldType.int)) ∈ mw := mw_in (List.mem_append_right _ (List.mem_append_left _ (List.mem_of_getElem? (i := 121) rfl))) rfl
theorem wd_122 : (Jvm.Cond.methodLink "PinwheelKernel" (95 : Nat) ({ cls := "PinwheelKernel", name := "lookForSeam", desc := "()V" } : Jvm.MethodName)) ∈ mw := mw_in (List.mem_append_right _ (List.mem_append_left _ (List.mem_of_getElem? (i := 122) rfl))) rfl
theorem wd_124 : (Jvm.Cond.instanceMethod ({ cls := "PinwheelKernel", name := "lookForSeam", desc := "()V" } : Jvm.MethodName)) ∈ mw := mw_in (List.mem_append_right _ (List.mem_append_left _ (List.mem_of_getElem? (i := 124) rfl))) rfl
theorem wd_125 : (Jvm.Cond.code ({ cls := "PinwheelKernel", name := "lookForSeam", desc := "()V" } : Jvm.MethodName) prog_1_method_17_code (2 : Nat) (Option.none : Option Jvm.ClassFile.FieldType)) ∈ mw := mw_in (List.mem_append_right _ (List.mem_append_left _ (List.mem_of_getElem? (i := 125) rfl))) rfl
theorem wd_126 : (Jvm.Cond.methodLink "PinwheelKernel" (160 : Nat) ({ cls := "PinwheelKernel$Clients", name := "takeTimesFrom", desc := "(LPinwheelKernel$Clients;)V" } : Jvm.MethodName)) ∈ mw := mw_in (List.mem_append_right _ (List.mem_append_left _ (List.mem_of_getElem? (i := 126) rfl))) rfl
theorem wd_127 : (Jvm.Cond.instanceMethod ({ cls := "PinwheelKernel$Clients", name := "takeTimesFrom", desc := "(LPinwheelKernel$Clients;)V" } : Jvm.MethodName)) ∈ mw := mw_in (List.mem_append_right _ (List.mem_append_left _ (List.mem_of_getElem? (i := 127) rfl))) rfl
theorem wd_128 : (Jvm.Cond.selects "PinwheelKernel$Clients" ({ cls := "PinwheelKernel$Clients", name := "takeTimesFrom", desc := "(LPinwheelKernel$Clients;)V" } : Jvm.MethodName) ({ cls := "PinwheelKernel$Clients", name := "takeTimesFrom", desc := "(LPinwheelKernel$Clients;)V" } : Jvm.MethodName)) ∈ mw := mw_in (List.mem_append_right _ (List.mem_append_left _ (List.mem_of_getElem? (i := 128) rfl))) rfl
theorem wd_129 : (Jvm.Cond.code ({ cls := "PinwheelKernel$Clients", name := "takeTimesFrom", desc := "(LPinwheelKernel$Clients;)V" } : Jvm.MethodName) prog_2_method_12_code (4 : Nat) (Option.none : Option Jvm.ClassFile.FieldType)) ∈ mw := mw_in (List.mem_append_right _ (List.mem_append_left _ (List.mem_of_getElem? (i := 129) rfl))) rfl
theorem wd_130 : (Jvm.Cond.methodLink "PinwheelKernel$Clients" (38 : Nat) ({ cls := "PinwheelKernel$Clients", name := "find", desc := "(I)I" } : Jvm.MethodName)) ∈ mw := mw_in (List.mem_append_right _ (List.mem_append_left _ (List.mem_of_getElem? (i := 130) rfl))) rfl
theorem wd_131 : (Jvm.Cond.instanceMethod ({ cls := "PinwheelKernel$Clients", name := "find", desc := "(I)I" } : Jvm.MethodName)) ∈ mw := mw_in (List.mem_append_right _ (List.mem_append_left _ (List.mem_of_getElem? (i := 131) rfl))) rfl
theorem wd_132 : (Jvm.Cond.selects "PinwheelKernel$Clients" ({ cls := "PinwheelKernel$Clients", name := "find", desc := "(I)I" } : Jvm.MethodName) ({ cls := "PinwheelKernel$Clients", name := "find", desc := "(I)I" } : Jvm.MethodName)) ∈ mw := mw_in (List.mem_append_right _ (List.mem_append_left _ (List.mem_of_getElem? (i := 132) rfl))) rfl
theorem wd_133 : (Jvm.Cond.code ({ cls := "PinwheelKernel$Clients", name := "find", desc := "(I)I" } : Jvm.MethodName) prog_2_method_7_code (3 : Nat) (Option.some Jvm.ClassFile.FieldType.int)) ∈ mw := mw_in (List.mem_append_right _ (List.mem_append_left _ (List.mem_of_getElem? (i := 133) rfl))) rfl
theorem wd_134 : (Jvm.Cond.methodLink "PinwheelKernel$Clients" (34 : Nat) ({ cls := "PinwheelKernel$Clients", name := "copyAt", desc := "(ILPinwheelKernel$Clients;I)V" } : Jvm.MethodName)) ∈ mw := mw_in (List.mem_append_right _ (List.mem_append_left _ (List.mem_of_getElem? (i := 134) rfl))) rfl
theorem wd_136 : (Jvm.Cond.instanceMethod ({ cls := "PinwheelKernel$Clients", name := "copyAt", desc := "(ILPinwheelKernel$Clients;I)V" } : Jvm.MethodName)) ∈ mw := mw_in (List.mem_append_right _ (List.mem_append_left _ (List.mem_of_getElem? (i := 136) rfl))) rfl
theorem wd_137 : (Jvm.Cond.code ({ cls := "PinwheelKernel$Clients", name := "copyAt", desc := "(ILPinwheelKernel$Clients;I)V" } : Jvm.MethodName) prog_2_method_14_code (4 : Nat) (Option.none : Option Jvm.ClassFile.FieldType)) ∈ mw := mw_in (List.mem_append_right _ (List.mem_append_left _ (List.mem_of_getElem? (i := 137) rfl))) rfl
theorem wd_138 : (Jvm.Cond.methodLink "PinwheelKernel" (163 : Nat) ({ cls := "PinwheelKernel$Cycle", name := "seamFor", desc := "(LPinwheelKernel$Clients;)I" } : Jvm.MethodName)) ∈ mw := mw_in (List.mem_append_right _ (List.mem_append_left _ (List.mem_of_getElem? (i := 138) rfl))) rfl
theorem wd_139 : (Jvm.Cond.instanceMethod ({ cls := "PinwheelKernel$Cycle", name := "seamFor", desc := "(LPinwheelKernel$Clients;)I" } : Jvm.MethodName)) ∈ mw := mw_in (List.mem_append_right _ (List.mem_append_left _ (List.mem_of_getElem? (i := 139) rfl))) rfl
theorem wd_140 : (Jvm.Cond.selects "PinwheelKernel$Cycle" ({ cls := "PinwheelKernel$Cycle", name := "seamFor", desc := "(LPinwheelKernel$Clients;)I" } : Jvm.MethodName) ({ cls := "PinwheelKernel$Cycle", name := "seamFor", desc := "(LPinwheelKernel$Clients;)I" } : Jvm.MethodName)) ∈ mw := mw_in (List.mem_append_right _ (List.mem_append_left _ (List.mem_of_getElem? (i := 140) rfl))) rfl
theorem wd_141 : (Jvm.Cond.code ({ cls := "PinwheelKernel$Cycle", name := "seamFor", desc := "(LPinwheelKernel$Clients;)I" } : Jvm.MethodName) prog_3_method_10_code (3 : Nat) (Option.some Jvm.ClassFile.FieldType.int)) ∈ mw := mw_in (List.mem_append_right _ (List.mem_append_left _ (List.mem_of_getElem? (i := 141) rfl))) rfl
theorem wd_142 : (Jvm.Cond.methodLink "PinwheelKernel$Cycle" (42 : Nat) ({ cls := "PinwheelKernel$Cycle", name := "canGoOnFrom", desc := "(ILPinwheelKernel$Clients;)Z" } : Jvm.MethodName)) ∈ mw := mw_in (List.mem_append_right _ (List.mem_append_left _ (List.mem_of_getElem? (i := 142) rfl))) rfl
theorem wd_144 : (Jvm.Cond.instanceMethod ({ cls := "PinwheelKernel$Cycle", name := "canGoOnFrom", desc := "(ILPinwheelKernel$Clients;)Z" } : Jvm.MethodName)) ∈ mw := mw_in (List.mem_append_right _ (List.mem_append_left _ (List.mem_of_getElem? (i := 144) rfl))) rfl
theorem wd_145 : (Jvm.Cond.code ({ cls := "PinwheelKernel$Cycle", name := "canGoOnFrom", desc := "(ILPinwheelKernel$Clients;)Z" } : Jvm.MethodName) prog_3_method_11_code (4 : Nat) (Option.some Jvm.ClassFile.FieldType.boolean)) ∈ mw := mw_in (List.mem_append_right _ (List.mem_append_left _ (List.mem_of_getElem? (i := 145) rfl))) rfl
theorem wd_146 : (Jvm.Cond.methodLink "PinwheelKernel$Cycle" (46 : Nat) ({ cls := "PinwheelKernel$Clients", name := "count", desc := "()I" } : Jvm.MethodName)) ∈ mw := mw_in (List.mem_append_right _ (List.mem_append_left _ (List.mem_of_getElem? (i := 146) rfl))) rfl
theorem wd_147 : (Jvm.Cond.instanceMethod ({ cls := "PinwheelKernel$Clients", name := "count", desc := "()I" } : Jvm.MethodName)) ∈ mw := mw_in (List.mem_append_right _ (List.mem_append_left _ (List.mem_of_getElem? (i := 147) rfl))) rfl
theorem wd_148 : (Jvm.Cond.selects "PinwheelKernel$Clients" ({ cls := "PinwheelKernel$Clients", name := "count", desc := "()I" } : Jvm.MethodName) ({ cls := "PinwheelKernel$Clients", name := "count", desc := "()I" } : Jvm.MethodName)) ∈ mw := mw_in (List.mem_append_right _ (List.mem_append_left _ (List.mem_of_getElem? (i := 148) rfl))) rfl
theorem wd_149 : (Jvm.Cond.code ({ cls := "PinwheelKernel$Clients", name := "count", desc := "()I" } : Jvm.MethodName) prog_2_method_2_code (1 : Nat) (Option.some Jvm.ClassFile.FieldType.int)) ∈ mw := mw_in (List.mem_append_right _ (List.mem_append_left _ (List.mem_of_getElem? (i := 149) rfl))) rfl
theorem wd_150 : (Jvm.Cond.methodLink "PinwheelKernel$Cycle" (51 : Nat) ({ cls := "PinwheelKernel$Clients", name := "spanAt", desc := "(I)I" } : Jvm.MethodName)) ∈ mw := mw_in (List.mem_append_right _ (List.mem_append_left _ (List.mem_of_getElem? (i := 150) rfl))) rfl
theorem wd_151 : (Jvm.Cond.instanceMethod ({ cls := "PinwheelKernel$Clients", name := "spanAt", desc := "(I)I" } : Jvm.MethodName)) ∈ mw := mw_in (List.mem_append_right _ (List.mem_append_left _ (List.mem_of_getElem? (i := 151) rfl))) rfl
theorem wd_152 : (Jvm.Cond.selects "PinwheelKernel$Clients" ({ cls := "PinwheelKernel$Clients", name := "spanAt", desc := "(I)I" } : Jvm.MethodName) ({ cls := "PinwheelKernel$Clients", name := "spanAt", desc := "(I)I" } : Jvm.MethodName)) ∈ mw := mw_in (List.mem_append_right _ (List.mem_append_left _ (List.mem_of_getElem? (i := 152) rfl))) rfl
theorem wd_153 : (Jvm.Cond.code ({ cls := "PinwheelKernel$Clients", name := "spanAt", desc := "(I)I" } : Jvm.MethodName) prog_2_method_4_code (2 : Nat) (Option.some Jvm.ClassFile.FieldType.int)) ∈ mw := mw_in (List.mem_append_right _ (List.mem_append_left _ (List.mem_of_getElem? (i := 153) rfl))) rfl
theorem wd_154 : (Jvm.Cond.methodLink "PinwheelKernel$Cycle" (55 : Nat) ({ cls := "PinwheelKernel$Clients", name := "waitAt", desc := "(I)I" } : Jvm.MethodName)) ∈ mw := mw_in (List.mem_append_right _ (List.mem_append_left _ (List.mem_of_getElem? (i := 154) rfl))) rfl
theorem wd_155 : (Jvm.Cond.instanceMethod ({ cls := "PinwheelKernel$Clients", name := "waitAt", desc := "(I)I" } : Jvm.MethodName)) ∈ mw := mw_in (List.mem_append_right _ (List.mem_append_left _ (List.mem_of_getElem? (i := 155) rfl))) rfl
theorem wd_156 : (Jvm.Cond.selects "PinwheelKernel$Clients" ({ cls := "PinwheelKernel$Clients", name := "waitAt", desc := "(I)I" } : Jvm.MethodName) ({ cls := "PinwheelKernel$Clients", name := "waitAt", desc := "(I)I" } : Jvm.MethodName)) ∈ mw := mw_in (List.mem_append_right _ (List.mem_append_left _ (List.mem_of_getElem? (i := 156) rfl))) rfl
theorem wd_157 : (Jvm.Cond.code ({ cls := "PinwheelKernel$Clients", name := "waitAt", desc := "(I)I" } : Jvm.MethodName) prog_2_method_5_code (2 : Nat) (Option.some Jvm.ClassFile.FieldType.int)) ∈ mw := mw_in (List.mem_append_right _ (List.mem_append_left _ (List.mem_of_getElem? (i := 157) rfl))) rfl
theorem wd_158 : (Jvm.Cond.methodLink "PinwheelKernel$Cycle" (58 : Nat) ({ cls := "PinwheelKernel$Clients", name := "idAt", desc := "(I)I" } : Jvm.MethodName)) ∈ mw := mw_in (List.mem_append_right _ (List.mem_append_left _ (List.mem_of_getElem? (i := 158) rfl))) rfl
theorem wd_159 : (Jvm.Cond.instanceMethod ({ cls := "PinwheelKernel$Clients", name := "idAt", desc := "(I)I" } : Jvm.MethodName)) ∈ mw := mw_in (List.mem_append_right _ (List.mem_append_left _ (List.mem_of_getElem? (i := 159) rfl))) rfl
theorem wd_160 : (Jvm.Cond.selects "PinwheelKernel$Clients" ({ cls := "PinwheelKernel$Clients", name := "idAt", desc := "(I)I" } : Jvm.MethodName) ({ cls := "PinwheelKernel$Clients", name := "idAt", desc := "(I)I" } : Jvm.MethodName)) ∈ mw := mw_in (List.mem_append_right _ (List.mem_append_left _ (List.mem_of_getElem? (i := 160) rfl))) rfl
theorem wd_161 : (Jvm.Cond.code ({ cls := "PinwheelKernel$Clients", name := "idAt", desc := "(I)I" } : Jvm.MethodName) prog_2_method_3_code (2 : Nat) (Option.some Jvm.ClassFile.FieldType.int)) ∈ mw := mw_in (List.mem_append_right _ (List.mem_append_left _ (List.mem_of_getElem? (i := 161) rfl))) rfl
theorem wd_162 : (Jvm.Cond.methodLink "PinwheelKernel$Cycle" (61 : Nat) ({ cls := "PinwheelKernel$Cycle", name := "comesWithin", desc := "(III)Z" } : Jvm.MethodName)) ∈ mw := mw_in (List.mem_append_right _ (List.mem_append_left _ (List.mem_of_getElem? (i := 162) rfl))) rfl
theorem wd_164 : (Jvm.Cond.instanceMethod ({ cls := "PinwheelKernel$Cycle", name := "comesWithin", desc := "(III)Z" } : Jvm.MethodName)) ∈ mw := mw_in (List.mem_append_right _ (List.mem_append_left _ (List.mem_of_getElem? (i := 164) rfl))) rfl
theorem wd_165 : (Jvm.Cond.code ({ cls := "PinwheelKernel$Cycle", name := "comesWithin", desc := "(III)Z" } : Jvm.MethodName) prog_3_method_12_code (6 : Nat) (Option.some Jvm.ClassFile.FieldType.boolean)) ∈ mw := mw_in (List.mem_append_right _ (List.mem_append_left _ (List.mem_of_getElem? (i := 165) rfl))) rfl
theorem wd_166 : (Jvm.Cond.methodLink "PinwheelKernel$Cycle" (65 : Nat) ({ cls := "PinwheelKernel$Cycle", name := "placeAfter", desc := "(I)I" } : Jvm.MethodName)) ∈ mw := mw_in (List.mem_append_right _ (List.mem_append_left _ (List.mem_of_getElem? (i := 166) rfl))) rfl
theorem wd_167 : (Jvm.Cond.instanceMethod ({ cls := "PinwheelKernel$Cycle", name := "placeAfter", desc := "(I)I" } : Jvm.MethodName)) ∈ mw := mw_in (List.mem_append_right _ (List.mem_append_left _ (List.mem_of_getElem? (i := 167) rfl))) rfl
theorem wd_168 : (Jvm.Cond.selects "PinwheelKernel$Cycle" ({ cls := "PinwheelKernel$Cycle", name := "placeAfter", desc := "(I)I" } : Jvm.MethodName) ({ cls := "PinwheelKernel$Cycle", name := "placeAfter", desc := "(I)I" } : Jvm.MethodName)) ∈ mw := mw_in (List.mem_append_right _ (List.mem_append_left _ (List.mem_of_getElem? (i := 168) rfl))) rfl
theorem wd_169 : (Jvm.Cond.code ({ cls := "PinwheelKernel$Cycle", name := "placeAfter", desc := "(I)I" } : Jvm.MethodName) prog_3_method_5_code (2 : Nat) (Option.some Jvm.ClassFile.FieldType.int)) ∈ mw := mw_in (List.mem_append_right _ (List.mem_append_left _ (List.mem_of_getElem? (i := 169) rfl))) rfl
theorem wd_170 : (Jvm.Cond.methodLink "PinwheelKernel" (167 : Nat) ({ cls := "PinwheelKernel", name := "goOver", desc := "(I)V" } : Jvm.MethodName)) ∈ mw := mw_in (List.mem_append_right _ (List.mem_append_left _ (List.mem_of_getElem? (i := 170) rfl))) rfl
theorem wd_172 : (Jvm.Cond.instanceMethod ({ cls := "PinwheelKernel", name := "goOver", desc := "(I)V" } : Jvm.MethodName)) ∈ mw := mw_in (List.mem_append_right _ (List.mem_append_left _ (List.mem_of_getElem? (i := 172) rfl))) rfl
theorem wd_173 : (Jvm.Cond.code ({ cls := "PinwheelKernel", name := "goOver", desc := "(I)V" } : Jvm.MethodName) prog_1_method_18_code (4 : Nat) (Option.none : Option Jvm.ClassFile.FieldType)) ∈ mw := mw_in (List.mem_append_right _ (List.mem_append_left _ (List.mem_of_getElem? (i := 173) rfl))) rfl
theorem wd_174 : (Jvm.Cond.methodLink "PinwheelKernel" (57 : Nat) ({ cls := "PinwheelKernel$Clients", name := "find", desc := "(I)I" } : Jvm.MethodName)) ∈ mw := mw_in (List.mem_append_right _ (List.mem_append_left _ (List.mem_of_getElem? (i := 174) rfl))) rfl
theorem wd_175 : (Jvm.Cond.methodLink "PinwheelKernel" (98 : Nat) ({ cls := "PinwheelKernel$Cycle", name := "idAt", desc := "(I)I" } : Jvm.MethodName)) ∈ mw := mw_in (List.mem_append_right _ (List.mem_append_left _ (List.mem_of_getElem? (i := 175) rfl))) rfl
theorem wd_176 : (Jvm.Cond.instanceMethod ({ cls := "PinwheelKernel$Cycle", name := "idAt", desc := "(I)I" } : Jvm.MethodName)) ∈ mw := mw_in (List.mem_append_right _ (List.mem_append_left _ (List.mem_of_getElem? (i := 176) rfl))) rfl
theorem wd_177 : (Jvm.Cond.selects "PinwheelKernel$Cycle" ({ cls := "PinwheelKernel$Cycle", name := "idAt", desc := "(I)I" } : Jvm.MethodName) ({ cls := "PinwheelKernel$Cycle", name := "idAt", desc := "(I)I" } : Jvm.MethodName)) ∈ mw := mw_in (List.mem_append_right _ (List.mem_append_left _ (List.mem_of_getElem? (i := 177) rfl))) rfl
theorem wd_178 : (Jvm.Cond.code ({ cls := "PinwheelKernel$Cycle", name := "idAt", desc := "(I)I" } : Jvm.MethodName) prog_3_method_4_code (2 : Nat) (Option.some Jvm.ClassFile.FieldType.int)) ∈ mw := mw_in (List.mem_append_right _ (List.mem_append_left _ (List.mem_of_getElem? (i := 178) rfl))) rfl
theorem wd_179 : (Jvm.Cond.methodLink "PinwheelKernel" (101 : Nat) ({ cls := "PinwheelKernel$Clients", name := "passSlot", desc := "(I)V" } : Jvm.MethodName)) ∈ mw := mw_in (List.mem_append_right _ (List.mem_append_left _ (List.mem_of_getElem? (i := 179) rfl))) rfl
theorem wd_180 : (Jvm.Cond.instanceMethod ({ cls := "PinwheelKernel$Clients", name := "passSlot", desc := "(I)V" } : Jvm.MethodName)) ∈ mw := mw_in (List.mem_append_right _ (List.mem_append_left _ (List.mem_of_getElem? (i := 180) rfl))) rfl
theorem wd_181 : (Jvm.Cond.selects "PinwheelKernel$Clients" ({ cls := "PinwheelKernel$Clients", name := "passSlot", desc := "(I)V" } : Jvm.MethodName) ({ cls := "PinwheelKernel$Clients", name := "passSlot", desc := "(I)V" } : Jvm.MethodName)) ∈ mw := mw_in (List.mem_append_right _ (List.mem_append_left _ (List.mem_of_getElem? (i := 181) rfl))) rfl
theorem wd_182 : (Jvm.Cond.code ({ cls := "PinwheelKernel$Clients", name := "passSlot", desc := "(I)V" } : Jvm.MethodName) prog_2_method_13_code (3 : Nat) (Option.none : Option Jvm.ClassFile.FieldType)) ∈ mw := mw_in (List.mem_append_right _ (List.mem_append_left _ (List.mem_of_getElem? (i := 182) rfl))) rfl
theorem wd_183 : (Jvm.Cond.methodLink "PinwheelKernel$Clients" (42 : Nat) ({ cls := "java/lang/Math", name := "max", desc := "(II)I" } : Jvm.MethodName)) ∈ mw := mw_in (List.mem_append_right _ (List.mem_append_left _ (List.mem_of_getElem? (i := 183) rfl))) rfl
theorem wd_184 : (Jvm.Cond.static ({ cls := "java/lang/Math", name := "max", desc := "(II)I" } : Jvm.MethodName)) ∈ mw := mw_in (List.mem_append_right _ (List.mem_append_left _ (List.mem_of_getElem? (i := 184) rfl))) rfl
theorem wd_185 : (Jvm.Cond.code ({ cls := "java/lang/Math", name := "max", desc := "(II)I" } : Jvm.MethodName) prog_16_method_65_code (2 : Nat) (Option.some Jvm.ClassFile.FieldType.int)) ∈ mw := mw_in (List.mem_append_right _ (List.mem_append_left _ (List.mem_of_getElem? (i := 185) rfl))) rfl
theorem wd_186 : (Jvm.Cond.methodLink "PinwheelKernel" (104 : Nat) ({ cls := "PinwheelKernel$Cycle", name := "placeAfter", desc := "(I)I" } : Jvm.MethodName)) ∈ mw := mw_in (List.mem_append_right _ (List.mem_append_left _ (List.mem_of_getElem? (i := 186) rfl))) rfl
theorem wd_187 : (Jvm.Cond.methodLink "PinwheelKernelLaw" (102 : Nat) ({ cls := "PinwheelKernel", name := "feasible", desc := "()I" } : Jvm.MethodName)) ∈ mw := mw_in (List.mem_append_right _ (List.mem_append_left _ (List.mem_of_getElem? (i := 187) rfl))) rfl
theorem wd_188 : (Jvm.Cond.instanceMethod ({ cls := "PinwheelKernel", name := "feasible", desc := "()I" } : Jvm.MethodName)) ∈ mw := mw_in (List.mem_append_right _ (List.mem_append_left _ (List.mem_of_getElem? (i := 188) rfl))) rfl
theorem wd_189 : (Jvm.Cond.selects "PinwheelKernel" ({ cls := "PinwheelKernel", name := "feasible", desc := "()I" } : Jvm.MethodName) ({ cls := "PinwheelKernel", name := "feasible", desc := "()I" } : Jvm.MethodName)) ∈ mw := mw_in (List.mem_append_right _ (List.mem_append_left _ (List.mem_of_getElem? (i := 189) rfl))) rfl
theorem wd_190 : (Jvm.Cond.code ({ cls := "PinwheelKernel", name := "feasible", desc := "()I" } : Jvm.MethodName) prog_1_method_13_code (2 : Nat) (Option.some Jvm.ClassFile.FieldType.int)) ∈ mw := mw_in (List.mem_append_right _ (List.mem_append_left _ (List.mem_of_getElem? (i := 190) rfl))) rfl
theorem wd_191 : (Jvm.Cond.methodLink "PinwheelKernel" (67 : Nat) ({ cls := "PinwheelKernel$Clients", name := "count", desc := "()I" } : Jvm.MethodName)) ∈ mw := mw_in (List.mem_append_right _ (List.mem_append_left _ (List.mem_of_getElem? (i := 191) rfl))) rfl
theorem wd_192 : (Jvm.Cond.methodLink "PinwheelKernel" (130 : Nat) ({ cls := "PinwheelKernel", name := "stateBuilder", desc := "()LPinwheelKernel$StateBuilder;" } : Jvm.MethodName)) ∈ mw := mw_in (List.mem_append_right _ (List.mem_append_left _ (List.mem_of_getElem? (i := 192) rfl))) rfl
theorem wd_194 : (Jvm.Cond.instanceMethod ({ cls := "PinwheelKernel", name := "stateBuilder", desc := "()LPinwheelKernel$StateBuilder;" } : Jvm.MethodName)) ∈ mw := mw_in (List.mem_append_right _ (List.mem_append_left _ (List.mem_of_getElem? (i := 194) rfl))) rfl
theorem wd_195 : (Jvm.Cond.code ({ cls := "PinwheelKernel", name := "stateBuilder", desc := "()LPinwheelKernel$StateBuilder;" } : Jvm.MethodName) prog_1_method_19_code (1 : Nat) (Option.some (Jvm.ClassFile.FieldType.object "PinwheelKernel$StateBuilder"))) ∈ mw := mw_in (List.mem_append_right _ (List.mem_append_left _ (List.mem_of_getElem? (i := 195) rfl))) rfl
theorem wd_196 : (Jvm.Cond.classLink "PinwheelKernel" (135 : Nat) "PinwheelKernel$StateBuilder") ∈ mw := mw_in (List.mem_append_right _ (List.mem_append_left _ (List.mem_of_getElem? (i := 196) rfl))) rfl
theorem wd_197 : (Jvm.Cond.instantiable "PinwheelKernel$StateBuilder" (11 : Nat)) ∈ mw := mw_in (List.mem_append_right _ (List.mem_append_left _ (List.mem_of_getElem? (i := 197) rfl))) rfl
theorem wd_199 : (Jvm.Cond.instanceMethod ({ cls := "PinwheelKernel$StateBuilder", name := "<init>", desc := "()V" } : Jvm.MethodName)) ∈ mw := mw_in (List.mem_append_right _ (List.mem_append_left _ (List.mem_of_getElem? (i := 199) rfl))) rfl
theorem wd_200 : (Jvm.Cond.code ({ cls := "PinwheelKernel$StateBuilder", name := "<init>", desc := "()V" } : Jvm.MethodName) prog_5_method_1_code (1 : Nat) (Option.none : Option Jvm.ClassFile.FieldType)) ∈ mw := mw_in (List.mem_append_right _ (List.mem_append_left _ (List.mem_of_getElem? (i := 200) rfl))) rfl
theorem wd_201 : (Jvm.Cond.methodLink "PinwheelKernel$StateBuilder" (3 : Nat) ({ cls := "java/lang/Object", name := "<init>", desc := "()V" } : Jvm.MethodName)) ∈ mw := mw_in (List.mem_append_right _ (List.mem_append_left _ (List.mem_of_getElem? (i := 201) rfl))) rfl
theorem wd_202 : (Jvm.Cond.fieldLink "PinwheelKernel$StateBuilder" (9 : Nat) "PinwheelKernel$StateBuilder" "ids" "[I") ∈ mw := mw_in (List.mem_append_right _ (List.mem_append_left _ (List.mem_of_getElem? (i := 202) rfl))) rfl
theorem wd_203 : (Jvm.Cond.fieldLink "PinwheelKernel$StateBuilder" (15 : Nat) "PinwheelKernel$StateBuilder" "spans" "[I") ∈ mw := mw_in (List.mem_append_right _ (List.mem_append_left _ (List.mem_of_getElem? (i := 203) rfl))) rfl
theorem wd_204 : (Jvm.Cond.fieldLink "PinwheelKernel$StateBuilder" (18 : Nat) "PinwheelKernel$StateBuilder" "weights" "[I") ∈ mw := mw_in (List.mem_append_right _ (List.mem_append_left _ (List.mem_of_getElem? (i := 204) rfl))) rfl
theorem wd_205 : (Jvm.Cond.fieldLink "PinwheelKernel$StateBuilder" (21 : Nat) "PinwheelKernel$StateBuilder" "count" "I") ∈ mw := mw_in (List.mem_append_right _ (List.mem_append_left _ (List.mem_of_getElem? (i := 205) rfl))) rfl
theorem wd_206 : (Jvm.Cond.fieldLink "PinwheelKernel$StateBuilder" (25 : Nat) "PinwheelKernel$StateBuilder" "stateCount" "I") ∈ mw := mw_in (List.mem_append_right _ (List.mem_append_left _ (List.mem_of_getElem? (i := 206) rfl))) rfl
theorem wd_207 : (Jvm.Cond.fieldLink "PinwheelKernel$StateBuilder" (28 : Nat) "PinwheelKernel$StateBuilder" "allWeights" "I") ∈ mw := mw_in (List.mem_append_right _ (List.mem_append_left _ (List.mem_of_getElem? (i := 207) rfl))) rfl
theorem wd_208 : (Jvm.Cond.fieldLink "PinwheelKernel$StateBuilder" (31 : Nat) "PinwheelKernel$StateBuilder" "waysOn" "[I") ∈ mw := mw_in (List.mem_append_right _ (List.mem_append_left _ (List.mem_of_getElem? (i := 208) rfl))) rfl
theorem wd_209 : (Jvm.Cond.fieldLink "PinwheelKernel$StateBuilder" (34 : Nat) "PinwheelKernel$StateBuilder" s_us "[I") ∈ mw := mw_in (List.mem_append_right _ (List.mem_append_left _ (List.mem_of_getElem? (i := 209) (by decide +kernel)))) rfl
theorem wd_210 : (Jvm.Cond.fieldLink "PinwheelKernel$StateBuilder" (37 : Nat) "PinwheelKernel$StateBuilder" "unsafeCount" "I") ∈ mw := mw_in (List.mem_append_right _ (List.mem_append_left _ (List.mem_of_getElem? (i := 210) rfl))) rfl
theorem wd_211 : (Jvm.Cond.fieldLink "PinwheelKernel$StateBuilder" (40 : Nat) "PinwheelKernel$StateBuilder" "firstTimes" "[I") ∈ mw := mw_in (List.mem_append_right _ (List.mem_append_left _ (List.mem_of_getElem? (i := 211) rfl))) rfl
theorem wd_212 : (Jvm.Cond.fieldLink "PinwheelKernel$StateBuilder" (43 : Nat) "PinwheelKernel$StateBuilder" "served" "[I") ∈ mw := mw_in (List.mem_append_right _ (List.mem_append_left _ (List.mem_of_getElem? (i := 212) rfl))) rfl
theorem wd_213 : (Jvm.Cond.laysFinal "PinwheelKernel$StateBuilder" "PinwheelKernel$StateBuilder" "ids" "[I") ∈ mw := mw_in (List.mem_append_right _ (List.mem_append_left _ (List.mem_of_getElem? (i := 213) rfl))) rfl
theorem wd_215 : (Jvm.Cond.laysFinal "PinwheelKernel$StateBuilder" "PinwheelKernel$StateBuilder" "spans" "[I") ∈ mw := mw_in (List.mem_append_right _ (List.mem_append_left _ (List.mem_of_getElem? (i := 215) rfl))) rfl
theorem wd_217 : (Jvm.Cond.laysFinal "PinwheelKernel$StateBuilder" "PinwheelKernel$StateBuilder" "weights" "[I") ∈ mw := mw_in (List.mem_append_right _ (List.mem_append_left _ (List.mem_of_getElem? (i := 217) rfl))) rfl
theorem wd_219 : (Jvm.Cond.lays "PinwheelKernel$StateBuilder" "PinwheelKernel$StateBuilder" "count" "I") ∈ mw := mw_in (List.mem_append_right _ (List.mem_append_left _ (List.mem_of_getElem? (i := 219) rfl))) rfl
theorem wd_221 : (Jvm.Cond.lays "PinwheelKernel$StateBuilder" "PinwheelKernel$StateBuilder" "stateCount" "I") ∈ mw := mw_in (List.mem_append_right _ (List.mem_append_left _ (List.mem_of_getElem? (i := 221) rfl))) rfl
theorem wd_223 : (Jvm.Cond.lays "PinwheelKernel$StateBuilder" "PinwheelKernel$StateBuilder" "allWeights" "I") ∈ mw := mw_in (List.mem_append_right _ (List.mem_append_left _ (List.mem_of_getElem? (i := 223) rfl))) rfl
theorem wd_225 : (Jvm.Cond.laysFinal "PinwheelKernel$StateBuilder" "PinwheelKernel$StateBuilder" "waysOn" "[I") ∈ mw := mw_in (List.mem_append_right _ (List.mem_append_left _ (List.mem_of_getElem? (i := 225) rfl))) rfl
theorem wd_227 : (Jvm.Cond.laysFinal "PinwheelKernel$StateBuilder" "PinwheelKernel$StateBuilder" s_us "[I") ∈ mw := mw_in (List.mem_append_right _ (List.mem_append_left _ (List.mem_of_getElem? (i := 227) (by decide +kernel)))) rfl
theorem wd_229 : (Jvm.Cond.lays "PinwheelKernel$StateBuilder" "PinwheelKernel$StateBuilder" "unsafeCount" "I") ∈ mw := mw_in (List.mem_append_right _ (List.mem_append_left _ (List.mem_of_getElem? (i := 229) rfl))) rfl
theorem wd_231 : (Jvm.Cond.laysFinal "PinwheelKernel$StateBuilder" "PinwheelKernel$StateBuilder" "firstTimes" "[I") ∈ mw := mw_in (List.mem_append_right _ (List.mem_append_left _ (List.mem_of_getElem? (i := 231) rfl))) rfl
theorem wd_233 : (Jvm.Cond.laysFinal "PinwheelKernel$StateBuilder" "PinwheelKernel$StateBuilder" "served" "[I") ∈ mw := mw_in (List.mem_append_right _ (List.mem_append_left _ (List.mem_of_getElem? (i := 233) rfl))) rfl
theorem wd_235 : (Jvm.Cond.superclass "PinwheelKernel$StateBuilder" "java/lang/Object") ∈ mw := mw_in (List.mem_append_right _ (List.mem_append_left _ (List.mem_of_getElem? (i := 235) rfl))) rfl
theorem wd_236 : (Jvm.Cond.methodLink "PinwheelKernel" (134 : Nat) ({ cls := "PinwheelKernel$StateBuilder", name := "takes", desc := "(LPinwheelKernel$Clients;)Z" } : Jvm.MethodName)) ∈ mw := mw_in (List.mem_append_right _ (List.mem_append_left _ (List.mem_of_getElem? (i := 236) rfl))) rfl
theorem wd_237 : (Jvm.Cond.instanceMethod ({ cls := "PinwheelKernel$StateBuilder", name := "takes", desc := "(LPinwheelKernel$Clients;)Z" } : Jvm.MethodName)) ∈ mw := mw_in (List.mem_append_right _ (List.mem_append_left _ (List.mem_of_getElem? (i := 237) rfl))) rfl
theorem wd_238 : (Jvm.Cond.selects "PinwheelKernel$StateBuilder" ({ cls := "PinwheelKernel$StateBuilder", name := "takes", desc := "(LPinwheelKernel$Clients;)Z" } : Jvm.MethodName) ({ cls := "PinwheelKernel$StateBuilder", name := "takes", desc := "(LPinwheelKernel$Clients;)Z" } : Jvm.MethodName)) ∈ mw := mw_in (List.mem_append_right _ (List.mem_append_left _ (List.mem_of_getElem? (i := 238) rfl))) rfl
theorem wd_239 : (Jvm.Cond.code ({ cls := "PinwheelKernel$StateBuilder", name := "takes", desc := "(LPinwheelKernel$Clients;)Z" } : Jvm.MethodName) prog_5_method_3_code (4 : Nat) (Option.some Jvm.ClassFile.FieldType.boolean)) ∈ mw := mw_in (List.mem_append_right _ (List.mem_append_left _ (List.mem_of_getElem? (i := 239) rfl))) rfl
theorem wd_240 : (Jvm.Cond.methodLink "PinwheelKernel$StateBuilder" (74 : Nat) ({ cls := "PinwheelKernel$Clients", name := "count", desc := "()I" } : Jvm.MethodName)) ∈ mw := mw_in (List.mem_append_right _ (List.mem_append_right _ (List.mem_append_left _ (List.mem_of_getElem? (i := 0) rfl)))) rfl
theorem wd_241 : (Jvm.Cond.methodLink "PinwheelKernel$StateBuilder" (79 : Nat) ({ cls := "PinwheelKernel$Clients", name := "spanAt", desc := "(I)I" } : Jvm.MethodName)) ∈ mw := mw_in (List.mem_append_right _ (List.mem_append_right _ (List.mem_append_left _ (List.mem_of_getElem? (i := 1) rfl)))) rfl
theorem wd_242 : (Jvm.Cond.methodLink "PinwheelKernel$StateBuilder" (82 : Nat) ({ cls := "PinwheelKernel$StateBuilder", name := "takeInOrder", desc := "(LPinwheelKernel$Clients;)V" } : Jvm.MethodName)) ∈ mw := mw_in (List.mem_append_right _ (List.mem_append_right _ (List.mem_append_left _ (List.mem_of_getElem? (i := 2) rfl)))) rfl
theorem wd_244 : (Jvm.Cond.instanceMethod ({ cls := "PinwheelKernel$StateBuilder", name := "takeInOrder", desc := "(LPinwheelKernel$Clients;)V" } : Jvm.MethodName)) ∈ mw := mw_in (List.mem_append_right _ (List.mem_append_right _ (List.mem_append_left _ (List.mem_of_getElem? (i := 4) rfl)))) rfl
theorem wd_245 : (Jvm.Cond.code ({ cls := "PinwheelKernel$StateBuilder", name := "takeInOrder", desc := "(LPinwheelKernel$Clients;)V" } : Jvm.MethodName) prog_5_method_5_code (4 : Nat) (Option.none : Option Jvm.ClassFile.FieldType)) ∈ mw := mw_in (List.mem_append_right _ (List.mem_append_right _ (List.mem_append_left _ (List.mem_of_getElem? (i := 5) rfl)))) rfl
theorem wd_246 : (Jvm.Cond.methodLink "PinwheelKernel$StateBuilder" (96 : Nat) ({ cls := "PinwheelKernel$Clients", name := "idAt", desc := "(I)I" } : Jvm.MethodName)) ∈ mw := mw_in (List.mem_append_right _ (List.mem_append_right _ (List.mem_append_left _ (List.mem_of_getElem? (i := 6) rfl)))) rfl
theorem wd_247 : (Jvm.Cond.methodLink "PinwheelKernel$StateBuilder" (86 : Nat) ({ cls := "PinwheelKernel$StateBuilder", name := "weigh", desc := "()V" } : Jvm.MethodName)) ∈ mw := mw_in (List.mem_append_right _ (List.mem_append_right _ (List.mem_append_left _ (List.mem_of_getElem? (i := 7) rfl)))) rfl
theorem wd_249 : (Jvm.Cond.instanceMethod ({ cls := "PinwheelKernel$StateBuilder", name := "weigh", desc := "()V" } : Jvm.MethodName)) ∈ mw := mw_in (List.mem_append_right _ (List.mem_append_right _ (List.mem_append_left _ (List.mem_of_getElem? (i := 9) rfl)))) rfl
theorem wd_250 : (Jvm.Cond.code ({ cls := "PinwheelKernel$StateBuilder", name := "weigh", desc := "()V" } : Jvm.MethodName) prog_5_method_6_code (3 : Nat) (Option.none : Option Jvm.ClassFile.FieldType)) ∈ mw := mw_in (List.mem_append_right _ (List.mem_append_right _ (List.mem_append_left _ (List.mem_of_getElem? (i := 10) rfl)))) rfl
theorem wd_251 : (Jvm.Cond.methodLink "PinwheelKernel" (140 : Nat) ({ cls := "PinwheelKernel$StateBuilder", name := "startsSafe", desc := "()Z" } : Jvm.MethodName)) ∈ mw := mw_in (List.mem_append_right _ (List.mem_append_right _ (List.mem_append_left _ (List.mem_of_getElem? (i := 11) rfl)))) rfl
theorem wd_252 : (Jvm.Cond.instanceMethod ({ cls := "PinwheelKernel$StateBuilder", name := "startsSafe", desc := "()Z" } : Jvm.MethodName)) ∈ mw := mw_in (List.mem_append_right _ (List.mem_append_right _ (List.mem_append_left _ (List.mem_of_getElem? (i := 12) rfl)))) rfl
theorem wd_253 : (Jvm.Cond.selects "PinwheelKernel$StateBuilder" ({ cls := "PinwheelKernel$StateBuilder", name := "startsSafe", desc := "()Z" } : Jvm.MethodName) ({ cls := "PinwheelKernel$StateBuilder", name := "startsSafe", desc := "()Z" } : Jvm.MethodName)) ∈ mw := mw_in (List.mem_append_right _ (List.mem_append_right _ (List.mem_append_left _ (List.mem_of_getElem? (i := 13) rfl)))) rfl
theorem wd_254 : (Jvm.Cond.code ({ cls := "PinwheelKernel$StateBuilder", name := "startsSafe", desc := "()Z" } : Jvm.MethodName) prog_5_method_4_code (2 : Nat) (Option.some Jvm.ClassFile.FieldType.boolean)) ∈ mw := mw_in (List.mem_append_right _ (List.mem_append_right _ (List.mem_append_left _ (List.mem_of_getElem? (i := 14) rfl)))) rfl
theorem wd_255 : (Jvm.Cond.methodLink "PinwheelKernel$StateBuilder" (89 : Nat) ({ cls := "PinwheelKernel$StateBuilder", name := "listDeadEnds", desc := "()V" } : Jvm.MethodName)) ∈ mw := mw_in (List.mem_append_right _ (List.mem_append_right _ (List.mem_append_left _ (List.mem_of_getElem? (i := 15) rfl)))) rfl
theorem wd_257 : (Jvm.Cond.instanceMethod ({ cls := "PinwheelKernel$StateBuilder", name := "listDeadEnds", desc := "()V" } : Jvm.MethodName)) ∈ mw := mw_in (List.mem_append_right _ (List.mem_append_right _ (List.mem_append_left _ (List.mem_of_getElem? (i := 17) rfl)))) rfl
theorem wd_258 : (Jvm.Cond.code ({ cls := "PinwheelKernel$StateBuilder", name := "listDeadEnds", desc := "()V" } : Jvm.MethodName) prog_5_method_7_code (2 : Nat) (Option.none : Option Jvm.ClassFile.FieldType)) ∈ mw := mw_in (List.mem_append_right _ (List.mem_append_right _ (List.mem_append_left _ (List.mem_of_getElem? (i := 18) rfl)))) rfl
theorem wd_259 : (Jvm.Cond.methodLink "PinwheelKernel$StateBuilder" (99 : Nat) ({ cls := "PinwheelKernel$StateBuilder", name := "countWaysOn", desc := "(I)I" } : Jvm.MethodName)) ∈ mw := mw_in (List.mem_append_right _ (List.mem_append_right _ (List.mem_append_left _ (List.mem_of_getElem? (i := 19) rfl)))) rfl
theorem wd_261 : (Jvm.Cond.instanceMethod ({ cls := "PinwheelKernel$StateBuilder", name := "countWaysOn", desc := "(I)I" } : Jvm.MethodName)) ∈ mw := mw_in (List.mem_append_right _ (List.mem_append_right _ (List.mem_append_left _ (List.mem_of_getElem? (i := 21) rfl)))) rfl
theorem wd_262 : (Jvm.Cond.code ({ cls := "PinwheelKernel$StateBuilder", name := "countWaysOn", desc := "(I)I" } : Jvm.MethodName) prog_5_method_8_code (4 : Nat) (Option.some Jvm.ClassFile.FieldType.int)) ∈ mw := mw_in (List.mem_append_right _ (List.mem_append_right _ (List.mem_append_left _ (List.mem_of_getElem? (i := 22) rfl)))) rfl
theorem wd_263 : (Jvm.Cond.methodLink "PinwheelKernel$StateBuilder" (102 : Nat) ({ cls := "PinwheelKernel$StateBuilder", name := "digit", desc := "(II)I" } : Jvm.MethodName)) ∈ mw := mw_in (List.mem_append_right _ (List.mem_append_right _ (List.mem_append_left _ (List.mem_of_getElem? (i := 23) rfl)))) rfl
theorem wd_265 : (Jvm.Cond.instanceMethod ({ cls := "PinwheelKernel$StateBuilder", name := "digit", desc := "(II)I" } : Jvm.MethodName)) ∈ mw := mw_in (List.mem_append_right _ (List.mem_append_right _ (List.mem_append_left _ (List.mem_of_getElem? (i := 25) rfl)))) rfl
theorem wd_266 : (Jvm.Cond.code ({ cls := "PinwheelKernel$StateBuilder", name := "digit", desc := "(II)I" } : Jvm.MethodName) prog_5_method_16_code (3 : Nat) (Option.some Jvm.ClassFile.FieldType.int)) ∈ mw := mw_in (List.mem_append_right _ (List.mem_append_right _ (List.mem_append_left _ (List.mem_of_getElem? (i := 26) rfl)))) rfl
theorem wd_267 : (Jvm.Cond.methodLink "PinwheelKernel$StateBuilder" (92 : Nat) ({ cls := "PinwheelKernel$StateBuilder", name := "strikeWaysTo", desc := "(I)V" } : Jvm.MethodName)) ∈ mw := mw_in (List.mem_append_right _ (List.mem_append_right _ (List.mem_append_left _ (List.mem_of_getElem? (i := 27) rfl)))) rfl
theorem wd_269 : (Jvm.Cond.instanceMethod ({ cls := "PinwheelKernel$StateBuilder", name := "strikeWaysTo", desc := "(I)V" } : Jvm.MethodName)) ∈ mw := mw_in (List.mem_append_right _ (List.mem_append_right _ (List.mem_append_left _ (List.mem_of_getElem? (i := 29) rfl)))) rfl
theorem wd_270 : (Jvm.Cond.code ({ cls := "PinwheelKernel$StateBuilder", name := "strikeWaysTo", desc := "(I)V" } : Jvm.MethodName) prog_5_method_9_code (5 : Nat) (Option.none : Option Jvm.ClassFile.FieldType)) ∈ mw := mw_in (List.mem_append_right _ (List.mem_append_right _ (List.mem_append_left _ (List.mem_of_getElem? (i := 30) rfl)))) rfl
theorem wd_271 : (Jvm.Cond.methodLink "PinwheelKernel$StateBuilder" (105 : Nat) ({ cls := "PinwheelKernel$StateBuilder", name := "canComeFrom", desc := "(II)Z" } : Jvm.MethodName)) ∈ mw := mw_in (List.mem_append_right _ (List.mem_append_right _ (List.mem_append_left _ (List.mem_of_getElem? (i := 31) rfl)))) rfl
theorem wd_273 : (Jvm.Cond.instanceMethod ({ cls := "PinwheelKernel$StateBuilder", name := "canComeFrom", desc := "(II)Z" } : Jvm.MethodName)) ∈ mw := mw_in (List.mem_append_right _ (List.mem_append_right _ (List.mem_append_left _ (List.mem_of_getElem? (i := 33) rfl)))) rfl
theorem wd_274 : (Jvm.Cond.code ({ cls := "PinwheelKernel$StateBuilder", name := "canComeFrom", desc := "(II)Z" } : Jvm.MethodName) prog_5_method_12_code (5 : Nat) (Option.some Jvm.ClassFile.FieldType.boolean)) ∈ mw := mw_in (List.mem_append_right _ (List.mem_append_right _ (List.mem_append_left _ (List.mem_of_getElem? (i := 34) rfl)))) rfl
theorem wd_275 : (Jvm.Cond.methodLink "PinwheelKernel$StateBuilder" (109 : Nat) ({ cls := "PinwheelKernel$StateBuilder", name := "strikeOneWay", desc := "(I)V" } : Jvm.MethodName)) ∈ mw := mw_in (List.mem_append_right _ (List.mem_append_right _ (List.mem_append_left _ (List.mem_of_getElem? (i := 35) rfl)))) rfl
theorem wd_277 : (Jvm.Cond.instanceMethod ({ cls := "PinwheelKernel$StateBuilder", name := "strikeOneWay", desc := "(I)V" } : Jvm.MethodName)) ∈ mw := mw_in (List.mem_append_right _ (List.mem_append_right _ (List.mem_append_left _ (List.mem_of_getElem? (i := 37) rfl)))) rfl
theorem wd_278 : (Jvm.Cond.code ({ cls := "PinwheelKernel$StateBuilder", name := "strikeOneWay", desc := "(I)V" } : Jvm.MethodName) prog_5_method_10_code (2 : Nat) (Option.none : Option Jvm.ClassFile.FieldType)) ∈ mw := mw_in (List.mem_append_right _ (List.mem_append_right _ (List.mem_append_left _ (List.mem_of_getElem? (i := 38) rfl)))) rfl
theorem wd_279 : (Jvm.Cond.methodLink "PinwheelKernelLaw" (58 : Nat) ({ cls := "PinwheelKernelLaw", name := "ask", desc := "(LPinwheelKernel;II[J)I" } : Jvm.MethodName)) ∈ mw := mw_in (List.mem_append_right _ (List.mem_append_right _ (List.mem_append_left _ (List.mem_of_getElem? (i := 39) rfl)))) rfl
theorem wd_280 : (Jvm.Cond.static ({ cls := "PinwheelKernelLaw", name := "ask", desc := "(LPinwheelKernel;II[J)I" } : Jvm.MethodName)) ∈ mw := mw_in (List.mem_append_right _ (List.mem_append_right _ (List.mem_append_left _ (List.mem_of_getElem? (i := 40) rfl)))) rfl
theorem wd_281 : (Jvm.Cond.codeWith ({ cls := "PinwheelKernelLaw", name := "ask", desc := "(LPinwheelKernel;II[J)I" } : Jvm.MethodName) method_3_code (5 : Nat) (Option.some Jvm.ClassFile.FieldType.int) [((0 : Nat), (10 : Nat), (13 : Nat), (13 : Nat)), ((0 : Nat), (10 : Nat), (17 : Nat), (15 : Nat)), ((0 : Nat), (10 : Nat), (21 : Nat), (17 : Nat))]) ∈ mw := mw_in (List.mem_append_right _ (List.mem_append_right _ (List.mem_append_left _ (List.mem_of_getElem? (i := 41) rfl)))) rfl
theorem wd_282 : (Jvm.Cond.classLink "PinwheelKernelLaw" (13 : Nat) "java/lang/IllegalArgumentException") ∈ mw := mw_in (List.mem_append_right _ (List.mem_append_right _ (List.mem_append_left _ (List.mem_of_getElem? (i := 42) rfl)))) rfl
theorem wd_283 : (Jvm.Cond.classLink "PinwheelKernelLaw" (15 : Nat) "java/lang/IllegalStateException") ∈ mw := mw_in (List.mem_append_right _ (List.mem_append_right _ (List.mem_append_left _ (List.mem_of_getElem? (i := 43) rfl)))) rfl
theorem wd_284 : (Jvm.Cond.classLink "PinwheelKernelLaw" (17 : Nat) "java/lang/UnsupportedOperationException") ∈ mw := mw_in (List.mem_append_right _ (List.mem_append_right _ (List.mem_append_left _ (List.mem_of_getElem? (i := 44) rfl)))) rfl
theorem wd_285 : (Jvm.Cond.methodLink "PinwheelKernelLaw" (7 : Nat) ({ cls := "PinwheelKernel", name := "ask", desc := "(II)I" } : Jvm.MethodName)) ∈ mw := mw_in (List.mem_append_right _ (List.mem_append_right _ (List.mem_append_left _ (List.mem_of_getElem? (i := 45) rfl)))) rfl
theorem wd_286 : (Jvm.Cond.instanceMethod ({ cls := "PinwheelKernel", name := "ask", desc := "(II)I" } : Jvm.MethodName)) ∈ mw := mw_in (List.mem_append_right _ (List.mem_append_right _ (List.mem_append_left _ (List.mem_of_getElem? (i := 46) rfl)))) rfl
theorem wd_287 : (Jvm.Cond.selects "PinwheelKernel" ({ cls := "PinwheelKernel", name := "ask", desc := "(II)I" } : Jvm.MethodName) ({ cls := "PinwheelKernel", name := "ask", desc := "(II)I" } : Jvm.MethodName)) ∈ mw := mw_in (List.mem_append_right _ (List.mem_append_right _ (List.mem_append_left _ (List.mem_of_getElem? (i := 47) rfl)))) rfl
theorem wd_288 : (Jvm.Cond.code ({ cls := "PinwheelKernel", name := "ask", desc := "(II)I" } : Jvm.MethodName) prog_1_method_2_code (4 : Nat) (Option.some Jvm.ClassFile.FieldType.int)) ∈ mw := mw_in (List.mem_append_right _ (List.mem_append_right _ (List.mem_append_left _ (List.mem_of_getElem? (i := 48) rfl)))) rfl
theorem wd_289 : (Jvm.Cond.classLink "PinwheelKernel" (61 : Nat) "java/lang/IllegalArgumentException") ∈ mw := mw_in (List.mem_append_right _ (List.mem_append_right _ (List.mem_append_left _ (List.mem_of_getElem? (i := 49) rfl)))) rfl
theorem wd_290 : (Jvm.Cond.instantiable "java/lang/IllegalArgumentException" (6 : Nat)) ∈ mw := mw_in (List.mem_append_right _ (List.mem_append_right _ (List.mem_append_left _ (List.mem_of_getElem? (i := 50) rfl)))) rfl
theorem wd_298 : (Jvm.Cond.selects "java/lang/IllegalArgumentException" ({ cls := "java/lang/Throwable", name := "fillInStackTrace", desc := "(I)Ljava/lang/Throwable;" } : Jvm.MethodName) ({ cls := "java/lang/Throwable", name := "fillInStackTrace", desc := "(I)Ljava/lang/Throwable;" } : Jvm.MethodName)) ∈ mw := mw_in (List.mem_append_right _ (List.mem_append_right _ (List.mem_append_left _ (List.mem_of_getElem? (i := 58) rfl)))) rfl
theorem wd_299 : (Jvm.Cond.selects "java/lang/IllegalArgumentException" ({ cls := "java/lang/Throwable", name := "fillInStackTrace", desc := "()Ljava/lang/Throwable;" } : Jvm.MethodName) ({ cls := "java/lang/Throwable", name := "fillInStackTrace", desc := "()Ljava/lang/Throwable;" } : Jvm.MethodName)) ∈ mw := mw_in (List.mem_append_right _ (List.mem_append_right _ (List.mem_append_left _ (List.mem_of_getElem? (i := 59) rfl)))) rfl
theorem wd_300 : (Jvm.Cond.lays "java/lang/IllegalArgumentException" "java/lang/Throwable" "cause" "Ljava/lang/Throwable;") ∈ mw := mw_in (List.mem_append_right _ (List.mem_append_right _ (List.mem_append_left _ (List.mem_of_getElem? (i := 60) rfl)))) rfl
theorem wd_301 : (Jvm.Cond.lays "java/lang/Throwable" "java/lang/Throwable" "cause" "Ljava/lang/Throwable;") ∈ mw := mw_in (List.mem_append_right _ (List.mem_append_right _ (List.mem_append_left _ (List.mem_of_getElem? (i := 61) rfl)))) rfl
theorem wd_302 : (Jvm.Cond.lays "java/lang/IllegalArgumentException" "java/lang/Throwable" "stackTrace" "[Ljava/lang/StackTraceElement;") ∈ mw := mw_in (List.mem_append_right _ (List.mem_append_right _ (List.mem_append_left _ (List.mem_of_getElem? (i := 62) rfl)))) rfl
theorem wd_303 : (Jvm.Cond.lays "java/lang/Throwable" "java/lang/Throwable" "stackTrace" "[Ljava/lang/StackTraceElement;") ∈ mw := mw_in (List.mem_append_right _ (List.mem_append_right _ (List.mem_append_left _ (List.mem_of_getElem? (i := 63) rfl)))) rfl
theorem wd_304 : (Jvm.Cond.lays "java/lang/IllegalArgumentException" "java/lang/Throwable" "suppressedExceptions" "Ljava/util/List;") ∈ mw := mw_in (List.mem_append_right _ (List.mem_append_right _ (List.mem_append_left _ (List.mem_of_getElem? (i := 64) rfl)))) rfl
theorem wd_305 : (Jvm.Cond.lays "java/lang/Throwable" "java/lang/Throwable" "suppressedExceptions" "Ljava/util/List;") ∈ mw := mw_in (List.mem_append_right _ (List.mem_append_right _ (List.mem_append_left _ (List.mem_of_getElem? (i := 65) rfl)))) rfl
theorem wd_306 : (Jvm.Cond.lays "java/lang/IllegalArgumentException" "java/lang/Throwable" "detailMessage" "Ljava/lang/String;") ∈ mw := mw_in (List.mem_append_right _ (List.mem_append_right _ (List.mem_append_left _ (List.mem_of_getElem? (i := 66) rfl)))) rfl
theorem wd_307 : (Jvm.Cond.lays "java/lang/Throwable" "java/lang/Throwable" "detailMessage" "Ljava/lang/String;") ∈ mw := mw_in (List.mem_append_right _ (List.mem_append_right _ (List.mem_append_left _ (List.mem_of_getElem? (i := 67) rfl)))) rfl
theorem wd_308 : (Jvm.Cond.lays "java/lang/IllegalArgumentException" "java/lang/Throwable" "backtrace" "Ljava/lang/Object;") ∈ mw := mw_in (List.mem_append_right _ (List.mem_append_right _ (List.mem_append_left _ (List.mem_of_getElem? (i := 68) rfl)))) rfl
theorem wd_309 : (Jvm.Cond.lays "java/lang/Throwable" "java/lang/Throwable" "backtrace" "Ljava/lang/Object;") ∈ mw := mw_in (List.mem_append_right _ (List.mem_append_right _ (List.mem_append_left _ (List.mem_of_getElem? (i := 69) rfl)))) rfl
theorem wd_310 : (Jvm.Cond.fieldLink "java/lang/Throwable" (198 : Nat) "java/lang/Throwable" "backtrace" "Ljava/lang/Object;") ∈ mw := mw_in (List.mem_append_right _ (List.mem_append_right _ (List.mem_append_left _ (List.mem_of_getElem? (i := 70) rfl)))) rfl
theorem wd_311 : (Jvm.Cond.superclass "java/lang/Throwable" "java/lang/Object") ∈ mw := mw_in (List.mem_append_right _ (List.mem_append_right _ (List.mem_append_left _ (List.mem_of_getElem? (i := 71) rfl)))) rfl
theorem wd_312 : (Jvm.Cond.instanceMethod ({ cls := "java/lang/Throwable", name := "<init>", desc := "()V" } : Jvm.MethodName)) ∈ mw := mw_in (List.mem_append_right _ (List.mem_append_right _ (List.mem_append_left _ (List.mem_of_getElem? (i := 72) rfl)))) rfl
theorem wd_313 : (Jvm.Cond.code ({ cls := "java/lang/Throwable", name := "<init>", desc := "()V" } : Jvm.MethodName) prog_23_method_1_code (1 : Nat) (Option.none : Option Jvm.ClassFile.FieldType)) ∈ mw := mw_in (List.mem_append_right _ (List.mem_append_right _ (List.mem_append_left _ (List.mem_of_getElem? (i := 73) rfl)))) rfl
theorem wd_314 : (Jvm.Cond.methodLink "java/lang/Throwable" (1 : Nat) ({ cls := "java/lang/Object", name := "<init>", desc := "()V" } : Jvm.MethodName)) ∈ mw := mw_in (List.mem_append_right _ (List.mem_append_right _ (List.mem_append_left _ (List.mem_of_getElem? (i := 74) rfl)))) rfl
theorem wd_315 : (Jvm.Cond.fieldLink "java/lang/Throwable" (13 : Nat) "java/lang/Throwable" "UNASSIGNED_STACK" "[Ljava/lang/StackTraceElement;") ∈ mw := mw_in (List.mem_append_right _ (List.mem_append_right _ (List.mem_append_left _ (List.mem_of_getElem? (i := 75) rfl)))) rfl
theorem wd_317 : (Jvm.Cond.fieldLink "java/lang/Throwable" (20 : Nat) "java/lang/Throwable" "SUPPRESSED_SENTINEL" "Ljava/util/List;") ∈ mw := mw_in (List.mem_append_right _ (List.mem_append_right _ (List.mem_append_left _ (List.mem_of_getElem? (i := 77) rfl)))) rfl
theorem wd_319 : (Jvm.Cond.methodLink "java/lang/Throwable" (27 : Nat) ({ cls := "java/lang/Throwable", name := "fillInStackTrace", desc := "()Ljava/lang/Throwable;" } : Jvm.MethodName)) ∈ mw := mw_in (List.mem_append_right _ (List.mem_append_right _ (List.mem_append_left _ (List.mem_of_getElem? (i := 79) rfl)))) rfl
theorem wd_320 : (Jvm.Cond.instanceMethod ({ cls := "java/lang/Throwable", name := "fillInStackTrace", desc := "()Ljava/lang/Throwable;" } : Jvm.MethodName)) ∈ mw := mw_in (List.mem_append_right _ (List.mem_append_right _ (List.mem_append_left _ (List.mem_of_getElem? (i := 80) rfl)))) rfl
theorem wd_321 : (Jvm.Cond.sameMethod "java/lang/Throwable" "java/lang/Throwable" "fillInStackTrace" "()Ljava/lang/Throwable;") ∈ mw := mw_in (List.mem_append_right _ (List.mem_append_right _ (List.mem_append_left _ (List.mem_of_getElem? (i := 81) rfl)))) rfl
theorem wd_322 : (Jvm.Cond.selects "java/lang/ArrayIndexOutOfBoundsException" ({ cls := "java/lang/Throwable", name := "fillInStackTrace", desc := "()Ljava/lang/Throwable;" } : Jvm.MethodName) ({ cls := "java/lang/Throwable", name := "fillInStackTrace", desc := "()Ljava/lang/Throwable;" } : Jvm.MethodName)) ∈ mw := mw_in (List.mem_append_right _ (List.mem_append_right _ (List.mem_append_left _ (List.mem_of_getElem? (i := 82) rfl)))) rfl
theorem wd_323 : (Jvm.Cond.selects "java/lang/IllegalStateException" ({ cls := "java/lang/Throwable", name := "fillInStackTrace", desc := "()Ljava/lang/Throwable;" } : Jvm.MethodName) ({ cls := "java/lang/Throwable", name := "fillInStackTrace", desc := "()Ljava/lang/Throwable;" } : Jvm.MethodName)) ∈ mw := mw_in (List.mem_append_right _ (List.mem_append_right _ (List.mem_append_left _ (List.mem_of_getElem? (i := 83) rfl)))) rfl
theorem wd_324 : (Jvm.Cond.selects "java/lang/IndexOutOfBoundsException" ({ cls := "java/lang/Throwable", name := "fillInStackTrace", desc := "()Ljava/lang/Throwable;" } : Jvm.MethodName) ({ cls := "java/lang/Throwable", name := "fillInStackTrace", desc := "()Ljava/lang/Throwable;" } : Jvm.MethodName)) ∈ mw := mw_in (List.mem_append_right _ (List.mem_append_right _ (List.mem_append_left _ (List.mem_of_getElem? (i := 84) rfl)))) rfl
theorem wd_325 : (Jvm.Cond.selects "java/lang/UnsupportedOperationException" ({ cls := "java/lang/Throwable", name := "fillInStackTrace", desc := "()Ljava/lang/Throwable;" } : Jvm.MethodName) ({ cls := "java/lang/Throwable", name := "fillInStackTrace", desc := "()Ljava/lang/Throwable;" } : Jvm.MethodName)) ∈ mw := mw_in (List.mem_append_right _ (List.mem_append_right _ (List.mem_append_left _ (List.mem_of_getElem? (i := 85) rfl)))) rfl
theorem wd_326 : (Jvm.Cond.selects "java/util/NoSuchElementException" ({ cls := "java/lang/Throwable", name := "fillInStackTrace", desc := "()Ljava/lang/Throwable;" } : Jvm.MethodName) ({ cls := "java/lang/Throwable", name := "fillInStackTrace", desc := "()Ljava/lang/Throwable;" } : Jvm.MethodName)) ∈ mw := mw_in (List.mem_append_right _ (List.mem_append_right _ (List.mem_append_left _ (List.mem_of_getElem? (i := 86) rfl)))) rfl
theorem wd_327 : (Jvm.Cond.codeSync ({ cls := "java/lang/Throwable", name := "fillInStackTrace", desc := "()Ljava/lang/Throwable;" } : Jvm.MethodName) prog_23_method_18_code (1 : Nat) (Option.some (Jvm.ClassFile.FieldType.object "java/lang/Throwable"))) ∈ mw := mw_in (List.mem_append_right _ (List.mem_append_right _ (List.mem_append_left _ (List.mem_of_getElem? (i := 87) rfl)))) rfl
theorem wd_328 : (Jvm.Cond.methodLink "java/lang/Throwable" (202 : Nat) ({ cls := "java/lang/Throwable", name := "fillInStackTrace", desc := "(I)Ljava/lang/Throwable;" } : Jvm.MethodName)) ∈ mw := mw_in (List.mem_append_right _ (List.mem_append_right _ (List.mem_append_left _ (List.mem_of_getElem? (i := 88) rfl)))) rfl
theorem wd_330 : (Jvm.Cond.instanceMethod ({ cls := "java/lang/Throwable", name := "fillInStackTrace", desc := "(I)Ljava/lang/Throwable;" } : Jvm.MethodName)) ∈ mw := mw_in (List.mem_append_right _ (List.mem_append_right _ (List.mem_append_left _ (List.mem_of_getElem? (i := 90) rfl)))) rfl
theorem wd_331 : (Jvm.Cond.instantiable "java/lang/Throwable" (6 : Nat)) ∈ mw := mw_in (List.mem_append_right _ (List.mem_append_right _ (List.mem_append_left _ (List.mem_of_getElem? (i := 91) rfl)))) rfl
theorem wd_332 : (Jvm.Cond.native ({ cls := "java/lang/Throwable", name := "fillInStackTrace", desc := "(I)Ljava/lang/Throwable;" } : Jvm.MethodName)) ∈ mw := mw_in (List.mem_append_right _ (List.mem_append_right _ (List.mem_append_left _ (List.mem_of_getElem? (i := 92) rfl)))) rfl
theorem wd_333 : (Jvm.Cond.methodLink "PinwheelKernel" (63 : Nat) ({ cls := "java/lang/IllegalArgumentException", name := "<init>", desc := "()V" } : Jvm.MethodName)) ∈ mw := mw_in (List.mem_append_right _ (List.mem_append_right _ (List.mem_append_left _ (List.mem_of_getElem? (i := 93) rfl)))) rfl
theorem wd_334 : (Jvm.Cond.instanceMethod ({ cls := "java/lang/IllegalArgumentException", name := "<init>", desc := "()V" } : Jvm.MethodName)) ∈ mw := mw_in (List.mem_append_right _ (List.mem_append_right _ (List.mem_append_left _ (List.mem_of_getElem? (i := 94) rfl)))) rfl
theorem wd_335 : (Jvm.Cond.code ({ cls := "java/lang/IllegalArgumentException", name := "<init>", desc := "()V" } : Jvm.MethodName) prog_12_method_1_code (1 : Nat) (Option.none : Option Jvm.ClassFile.FieldType)) ∈ mw := mw_in (List.mem_append_right _ (List.mem_append_right _ (List.mem_append_left _ (List.mem_of_getElem? (i := 95) rfl)))) rfl
theorem wd_336 : (Jvm.Cond.methodLink "java/lang/IllegalArgumentException" (1 : Nat) ({ cls := "java/lang/RuntimeException", name := "<init>", desc := "()V" } : Jvm.MethodName)) ∈ mw := mw_in (List.mem_append_right _ (List.mem_append_right _ (List.mem_append_left _ (List.mem_of_getElem? (i := 96) rfl)))) rfl
theorem wd_337 : (Jvm.Cond.instanceMethod ({ cls := "java/lang/RuntimeException", name := "<init>", desc := "()V" } : Jvm.MethodName)) ∈ mw := mw_in (List.mem_append_right _ (List.mem_append_right _ (List.mem_append_left _ (List.mem_of_getElem? (i := 97) rfl)))) rfl
theorem wd_338 : (Jvm.Cond.code ({ cls := "java/lang/RuntimeException", name := "<init>", desc := "()V" } : Jvm.MethodName) prog_17_method_1_code (1 : Nat) (Option.none : Option Jvm.ClassFile.FieldType)) ∈ mw := mw_in (List.mem_append_right _ (List.mem_append_right _ (List.mem_append_left _ (List.mem_of_getElem? (i := 98) rfl)))) rfl
theorem wd_339 : (Jvm.Cond.methodLink "java/lang/RuntimeException" (1 : Nat) ({ cls := "java/lang/Exception", name := "<init>", desc := "()V" } : Jvm.MethodName)) ∈ mw := mw_in (List.mem_append_right _ (List.mem_append_right _ (List.mem_append_left _ (List.mem_of_getElem? (i := 99) rfl)))) rfl
theorem wd_340 : (Jvm.Cond.instanceMethod ({ cls := "java/lang/Exception", name := "<init>", desc := "()V" } : Jvm.MethodName)) ∈ mw := mw_in (List.mem_append_right _ (List.mem_append_right _ (List.mem_append_left _ (List.mem_of_getElem? (i := 100) rfl)))) rfl
theorem wd_341 : (Jvm.Cond.code ({ cls := "java/lang/Exception", name := "<init>", desc := "()V" } : Jvm.MethodName) prog_11_method_1_code (1 : Nat) (Option.none : Option Jvm.ClassFile.FieldType)) ∈ mw := mw_in (List.mem_append_right _ (List.mem_append_right _ (List.mem_append_left _ (List.mem_of_getElem? (i := 101) rfl)))) rfl
theorem wd_342 : (Jvm.Cond.methodLink "java/lang/Exception" (1 : Nat) ({ cls := "java/lang/Throwable", name := "<init>", desc := "()V" } : Jvm.MethodName)) ∈ mw := mw_in (List.mem_append_right _ (List.mem_append_right _ (List.mem_append_left _ (List.mem_of_getElem? (i := 102) rfl)))) rfl
theorem wd_343 : (Jvm.Cond.fieldLink "java/lang/Throwable" (198 : Nat) "java/lang/Throwable" "backtrace" "Ljava/lang/Object;") ∈ mw := mw_in (List.mem_append_right _ (List.mem_append_right _ (List.mem_append_left _ (List.mem_of_getElem? (i := 103) rfl)))) rfl
theorem wd_344 : (Jvm.Cond.fieldLink "java/lang/Throwable" (31 : Nat) "java/lang/Throwable" "detailMessage" "Ljava/lang/String;") ∈ mw := mw_in (List.mem_append_right _ (List.mem_append_right _ (List.mem_append_left _ (List.mem_of_getElem? (i := 104) rfl)))) rfl
theorem wd_345 : (Jvm.Cond.fieldLink "java/lang/Throwable" (7 : Nat) "java/lang/Throwable" "cause" "Ljava/lang/Throwable;") ∈ mw := mw_in (List.mem_append_right _ (List.mem_append_right _ (List.mem_append_left _ (List.mem_of_getElem? (i := 105) rfl)))) rfl
theorem wd_346 : (Jvm.Cond.fieldLink "java/lang/Throwable" (17 : Nat) "java/lang/Throwable" "stackTrace" "[Ljava/lang/StackTraceElement;") ∈ mw := mw_in (List.mem_append_right _ (List.mem_append_right _ (List.mem_append_left _ (List.mem_of_getElem? (i := 106) rfl)))) rfl
theorem wd_347 : (Jvm.Cond.fieldLink "java/lang/Throwable" (24 : Nat) "java/lang/Throwable" "suppressedExceptions" "Ljava/util/List;") ∈ mw := mw_in (List.mem_append_right _ (List.mem_append_right _ (List.mem_append_left _ (List.mem_of_getElem? (i := 107) rfl)))) rfl
theorem wd_352 : (Jvm.Cond.lays "java/lang/IllegalArgumentException" "java/lang/Throwable" "depth" "I") ∈ mw := mw_in (List.mem_append_right _ (List.mem_append_right _ (List.mem_append_left _ (List.mem_of_getElem? (i := 112) rfl)))) rfl
theorem wd_355 : (Jvm.Cond.superclass "java/lang/IllegalArgumentException" "java/lang/RuntimeException") ∈ mw := mw_in (List.mem_append_right _ (List.mem_append_right _ (List.mem_append_left _ (List.mem_of_getElem? (i := 115) rfl)))) rfl
theorem wd_356 : (Jvm.Cond.classLink "PinwheelKernel" (64 : Nat) "java/lang/IllegalStateException") ∈ mw := mw_in (List.mem_append_right _ (List.mem_append_right _ (List.mem_append_left _ (List.mem_of_getElem? (i := 116) rfl)))) rfl
theorem wd_357 : (Jvm.Cond.instantiable "java/lang/IllegalStateException" (6 : Nat)) ∈ mw := mw_in (List.mem_append_right _ (List.mem_append_right _ (List.mem_append_left _ (List.mem_of_getElem? (i := 117) rfl)))) rfl
theorem wd_359 : (Jvm.Cond.selects "java/lang/IllegalStateException" ({ cls := "java/lang/Throwable", name := "fillInStackTrace", desc := "(I)Ljava/lang/Throwable;" } : Jvm.MethodName) ({ cls := "java/lang/Throwable", name := "fillInStackTrace", desc := "(I)Ljava/lang/Throwable;" } : Jvm.MethodName)) ∈ mw := mw_in (List.mem_append_right _ (List.mem_append_right _ (List.mem_append_left _ (List.mem_of_getElem? (i := 119) rfl)))) rfl
theorem wd_360 : (Jvm.Cond.lays "java/lang/IllegalStateException" "java/lang/Throwable" "cause" "Ljava/lang/Throwable;") ∈ mw := mw_in (List.mem_append_right _ (List.mem_append_right _ (List.mem_append_left _ (List.mem_of_getElem? (i := 120) rfl)))) rfl
theorem wd_361 : (Jvm.Cond.lays "java/lang/IllegalStateException" "java/lang/Throwable" "stackTrace" "[Ljava/lang/StackTraceElement;") ∈ mw := mw_in (List.mem_append_right _ (List.mem_append_right _ (List.mem_append_left _ (List.mem_of_getElem? (i := 121) rfl)))) rfl
theorem wd_362 : (Jvm.Cond.lays "java/lang/IllegalStateException" "java/lang/Throwable" "suppressedExceptions" "Ljava/util/List;") ∈ mw := mw_in (List.mem_append_right _ (List.mem_append_right _ (List.mem_append_left _ (List.mem_of_getElem? (i := 122) rfl)))) rfl
theorem wd_363 : (Jvm.Cond.lays "java/lang/IllegalStateException" "java/lang/Throwable" "detailMessage" "Ljava/lang/String;") ∈ mw := mw_in (List.mem_append_right _ (List.mem_append_right _ (List.mem_append_left _ (List.mem_of_getElem? (i := 123) rfl)))) rfl
theorem wd_364 : (Jvm.Cond.lays "java/lang/IllegalStateException" "java/lang/Throwable" "backtrace" "Ljava/lang/Object;") ∈ mw := mw_in (List.mem_append_right _ (List.mem_append_right _ (List.mem_append_left _ (List.mem_of_getElem? (i := 124) rfl)))) rfl
theorem wd_365 : (Jvm.Cond.methodLink "PinwheelKernel" (66 : Nat) ({ cls := "java/lang/IllegalStateException", name := "<init>", desc := "()V" } : Jvm.MethodName)) ∈ mw := mw_in (List.mem_append_right _ (List.mem_append_right _ (List.mem_append_left _ (List.mem_of_getElem? (i := 125) rfl)))) rfl
theorem wd_366 : (Jvm.Cond.instanceMethod ({ cls := "java/lang/IllegalStateException", name := "<init>", desc := "()V" } : Jvm.MethodName)) ∈ mw := mw_in (List.mem_append_right _ (List.mem_append_right _ (List.mem_append_left _ (List.mem_of_getElem? (i := 126) rfl)))) rfl
theorem wd_367 : (Jvm.Cond.code ({ cls := "java/lang/IllegalStateException", name := "<init>", desc := "()V" } : Jvm.MethodName) prog_13_method_1_code (1 : Nat) (Option.none : Option Jvm.ClassFile.FieldType)) ∈ mw := mw_in (List.mem_append_right _ (List.mem_append_right _ (List.mem_append_left _ (List.mem_of_getElem? (i := 127) rfl)))) rfl
theorem wd_368 : (Jvm.Cond.methodLink "java/lang/IllegalStateException" (1 : Nat) ({ cls := "java/lang/RuntimeException", name := "<init>", desc := "()V" } : Jvm.MethodName)) ∈ mw := mw_in (List.mem_append_right _ (List.mem_append_right _ (List.mem_append_left _ (List.mem_of_getElem? (i := 128) rfl)))) rfl
theorem wd_369 : (Jvm.Cond.lays "java/lang/IllegalStateException" "java/lang/Throwable" "depth" "I") ∈ mw := mw_in (List.mem_append_right _ (List.mem_append_right _ (List.mem_append_left _ (List.mem_of_getElem? (i := 129) rfl)))) rfl
theorem wd_370 : (Jvm.Cond.superclass "java/lang/IllegalStateException" "java/lang/RuntimeException") ∈ mw := mw_in (List.mem_append_right _ (List.mem_append_right _ (List.mem_append_left _ (List.mem_of_getElem? (i := 130) rfl)))) rfl
theorem wd_371 : (Jvm.Cond.classLink "PinwheelKernel" (71 : Nat) "java/lang/UnsupportedOperationException") ∈ mw := mw_in (List.mem_append_right _ (List.mem_append_right _ (List.mem_append_left _ (List.mem_of_getElem? (i := 131) rfl)))) rfl
theorem wd_372 : (Jvm.Cond.instantiable "java/lang/UnsupportedOperationException" (6 : Nat)) ∈ mw := mw_in (List.mem_append_right _ (List.mem_append_right _ (List.mem_append_left _ (List.mem_of_getElem? (i := 132) rfl)))) rfl
theorem wd_374 : (Jvm.Cond.selects "java/lang/UnsupportedOperationException" ({ cls := "java/lang/Throwable", name := "fillInStackTrace", desc := "(I)Ljava/lang/Throwable;" } : Jvm.MethodName) ({ cls := "java/lang/Throwable", name := "fillInStackTrace", desc := "(I)Ljava/lang/Throwable;" } : Jvm.MethodName)) ∈ mw := mw_in (List.mem_append_right _ (List.mem_append_right _ (List.mem_append_left _ (List.mem_of_getElem? (i := 134) rfl)))) rfl
theorem wd_375 : (Jvm.Cond.lays "java/lang/UnsupportedOperationException" "java/lang/Throwable" "cause" "Ljava/lang/Throwable;") ∈ mw := mw_in (List.mem_append_right _ (List.mem_append_right _ (List.mem_append_left _ (List.mem_of_getElem? (i := 135) rfl)))) rfl
theorem wd_376 : (Jvm.Cond.lays "java/lang/UnsupportedOperationException" "java/lang/Throwable" "stackTrace" "[Ljava/lang/StackTraceElement;") ∈ mw := mw_in (List.mem_append_right _ (List.mem_append_right _ (List.mem_append_left _ (List.mem_of_getElem? (i := 136) rfl)))) rfl
theorem wd_377 : (Jvm.Cond.lays "java/lang/UnsupportedOperationException" "java/lang/Throwable" "suppressedExceptions" "Ljava/util/List;") ∈ mw := mw_in (List.mem_append_right _ (List.mem_append_right _ (List.mem_append_left _ (List.mem_of_getElem? (i := 137) rfl)))) rfl
theorem wd_378 : (Jvm.Cond.lays "java/lang/UnsupportedOperationException" "java/lang/Throwable" "detailMessage" "Ljava/lang/String;") ∈ mw := mw_in (List.mem_append_right _ (List.mem_append_right _ (List.mem_append_left _ (List.mem_of_getElem? (i := 138) rfl)))) rfl
theorem wd_379 : (Jvm.Cond.lays "java/lang/UnsupportedOperationException" "java/lang/Throwable" "backtrace" "Ljava/lang/Object;") ∈ mw := mw_in (List.mem_append_right _ (List.mem_append_right _ (List.mem_append_left _ (List.mem_of_getElem? (i := 139) rfl)))) rfl
theorem wd_380 : (Jvm.Cond.methodLink "PinwheelKernel" (73 : Nat) ({ cls := "java/lang/UnsupportedOperationException", name := "<init>", desc := "()V" } : Jvm.MethodName)) ∈ mw := mw_in (List.mem_append_right _ (List.mem_append_right _ (List.mem_append_left _ (List.mem_of_getElem? (i := 140) rfl)))) rfl
theorem wd_381 : (Jvm.Cond.instanceMethod ({ cls := "java/lang/UnsupportedOperationException", name := "<init>", desc := "()V" } : Jvm.MethodName)) ∈ mw := mw_in (List.mem_append_right _ (List.mem_append_right _ (List.mem_append_left _ (List.mem_of_getElem? (i := 141) rfl)))) rfl
theorem wd_382 : (Jvm.Cond.code ({ cls := "java/lang/UnsupportedOperationException", name := "<init>", desc := "()V" } : Jvm.MethodName) prog_24_method_1_code (1 : Nat) (Option.none : Option Jvm.ClassFile.FieldType)) ∈ mw := mw_in (List.mem_append_right _ (List.mem_append_right _ (List.mem_append_left _ (List.mem_of_getElem? (i := 142) rfl)))) rfl
theorem wd_383 : (Jvm.Cond.methodLink "java/lang/UnsupportedOperationException" (1 : Nat) ({ cls := "java/lang/RuntimeException", name := "<init>", desc := "()V" } : Jvm.MethodName)) ∈ mw := mw_in (List.mem_append_right _ (List.mem_append_right _ (List.mem_append_left _ (List.mem_of_getElem? (i := 143) rfl)))) rfl
theorem wd_384 : (Jvm.Cond.lays "java/lang/UnsupportedOperationException" "java/lang/Throwable" "depth" "I") ∈ mw := mw_in (List.mem_append_right _ (List.mem_append_right _ (List.mem_append_left _ (List.mem_of_getElem? (i := 144) rfl)))) rfl
theorem wd_385 : (Jvm.Cond.superclass "java/lang/UnsupportedOperationException" "java/lang/RuntimeException") ∈ mw := mw_in (List.mem_append_right _ (List.mem_append_right _ (List.mem_append_left _ (List.mem_of_getElem? (i := 145) rfl)))) rfl
theorem wd_386 : (Jvm.Cond.methodLink "PinwheelKernel" (74 : Nat) ({ cls := "PinwheelKernel$Clients", name := "copyFrom", desc := "(LPinwheelKernel$Clients;)V" } : Jvm.MethodName)) ∈ mw := mw_in (List.mem_append_right _ (List.mem_append_right _ (List.mem_append_left _ (List.mem_of_getElem? (i := 146) rfl)))) rfl
theorem wd_387 : (Jvm.Cond.instanceMethod ({ cls := "PinwheelKernel$Clients", name := "copyFrom", desc := "(LPinwheelKernel$Clients;)V" } : Jvm.MethodName)) ∈ mw := mw_in (List.mem_append_right _ (List.mem_append_right _ (List.mem_append_left _ (List.mem_of_getElem? (i := 147) rfl)))) rfl
theorem wd_388 : (Jvm.Cond.selects "PinwheelKernel$Clients" ({ cls := "PinwheelKernel$Clients", name := "copyFrom", desc := "(LPinwheelKernel$Clients;)V" } : Jvm.MethodName) ({ cls := "PinwheelKernel$Clients", name := "copyFrom", desc := "(LPinwheelKernel$Clients;)V" } : Jvm.MethodName)) ∈ mw := mw_in (List.mem_append_right _ (List.mem_append_right _ (List.mem_append_left _ (List.mem_of_getElem? (i := 148) rfl)))) rfl
theorem wd_389 : (Jvm.Cond.code ({ cls := "PinwheelKernel$Clients", name := "copyFrom", desc := "(LPinwheelKernel$Clients;)V" } : Jvm.MethodName) prog_2_method_9_code (3 : Nat) (Option.none : Option Jvm.ClassFile.FieldType)) ∈ mw := mw_in (List.mem_append_right _ (List.mem_append_right _ (List.mem_append_left _ (List.mem_of_getElem? (i := 149) rfl)))) rfl
theorem wd_390 : (Jvm.Cond.methodLink "PinwheelKernel" (78 : Nat) ({ cls := "PinwheelKernel$Clients", name := "insert", desc := "(II)V" } : Jvm.MethodName)) ∈ mw := mw_in (List.mem_append_right _ (List.mem_append_right _ (List.mem_append_left _ (List.mem_of_getElem? (i := 150) rfl)))) rfl
theorem wd_391 : (Jvm.Cond.instanceMethod ({ cls := "PinwheelKernel$Clients", name := "insert", desc := "(II)V" } : Jvm.MethodName)) ∈ mw := mw_in (List.mem_append_right _ (List.mem_append_right _ (List.mem_append_left _ (List.mem_of_getElem? (i := 151) rfl)))) rfl
theorem wd_392 : (Jvm.Cond.selects "PinwheelKernel$Clients" ({ cls := "PinwheelKernel$Clients", name := "insert", desc := "(II)V" } : Jvm.MethodName) ({ cls := "PinwheelKernel$Clients", name := "insert", desc := "(II)V" } : Jvm.MethodName)) ∈ mw := mw_in (List.mem_append_right _ (List.mem_append_right _ (List.mem_append_left _ (List.mem_of_getElem? (i := 152) rfl)))) rfl
theorem wd_393 : (Jvm.Cond.code ({ cls := "PinwheelKernel$Clients", name := "insert", desc := "(II)V" } : Jvm.MethodName) prog_2_method_10_code (4 : Nat) (Option.none : Option Jvm.ClassFile.FieldType)) ∈ mw := mw_in (List.mem_append_right _ (List.mem_append_right _ (List.mem_append_left _ (List.mem_of_getElem? (i := 153) rfl)))) rfl
theorem wd_394 : (Jvm.Cond.methodLink "PinwheelKernel" (82 : Nat) ({ cls := "PinwheelKernel", name := "layPlanned", desc := "()I" } : Jvm.MethodName)) ∈ mw := mw_in (List.mem_append_right _ (List.mem_append_right _ (List.mem_append_left _ (List.mem_of_getElem? (i := 154) rfl)))) rfl
theorem wd_396 : (Jvm.Cond.instanceMethod ({ cls := "PinwheelKernel", name := "layPlanned", desc := "()I" } : Jvm.MethodName)) ∈ mw := mw_in (List.mem_append_right _ (List.mem_append_right _ (List.mem_append_left _ (List.mem_of_getElem? (i := 156) rfl)))) rfl
theorem wd_397 : (Jvm.Cond.code ({ cls := "PinwheelKernel", name := "layPlanned", desc := "()I" } : Jvm.MethodName) prog_1_method_15_code (1 : Nat) (Option.some Jvm.ClassFile.FieldType.int)) ∈ mw := mw_in (List.mem_append_right _ (List.mem_append_right _ (List.mem_append_left _ (List.mem_of_getElem? (i := 157) rfl)))) rfl
theorem wd_398 : (Jvm.Cond.methodLink "PinwheelKernel" (147 : Nat) ({ cls := "PinwheelKernel$RoundingBuilder", name := "layByPowers", desc := "(LPinwheelKernel$Clients;LPinwheelKernel$Cycle;)Z" } : Jvm.MethodName)) ∈ mw := mw_in (List.mem_append_right _ (List.mem_append_right _ (List.mem_append_left _ (List.mem_of_getElem? (i := 158) rfl)))) rfl
theorem wd_399 : (Jvm.Cond.instanceMethod ({ cls := "PinwheelKernel$RoundingBuilder", name := "layByPowers", desc := "(LPinwheelKernel$Clients;LPinwheelKernel$Cycle;)Z" } : Jvm.MethodName)) ∈ mw := mw_in (List.mem_append_right _ (List.mem_append_right _ (List.mem_append_left _ (List.mem_of_getElem? (i := 159) rfl)))) rfl
theorem wd_400 : (Jvm.Cond.selects "PinwheelKernel$RoundingBuilder" ({ cls := "PinwheelKernel$RoundingBuilder", name := "layByPowers", desc := "(LPinwheelKernel$Clients;LPinwheelKernel$Cycle;)Z" } : Jvm.MethodName) ({ cls := "PinwheelKernel$RoundingBuilder", name := "layByPowers", desc := "(LPinwheelKernel$Clients;LPinwheelKernel$Cycle;)Z" } : Jvm.MethodName)) ∈ mw := mw_in (List.mem_append_right _ (List.mem_append_right _ (List.mem_append_left _ (List.mem_of_getElem? (i := 160) rfl)))) rfl
theorem wd_401 : (Jvm.Cond.code ({ cls := "PinwheelKernel$RoundingBuilder", name := "layByPowers", desc := "(LPinwheelKernel$Clients;LPinwheelKernel$Cycle;)Z" } : Jvm.MethodName) prog_4_method_2_code (3 : Nat) (Option.some Jvm.ClassFile.FieldType.boolean)) ∈ mw := mw_in (List.mem_append_right _ (List.mem_append_right _ (List.mem_append_left _ (List.mem_of_getElem? (i := 161) rfl)))) rfl
theorem wd_402 : (Jvm.Cond.methodLink "PinwheelKernel$RoundingBuilder" (15 : Nat) ({ cls := "PinwheelKernel$RoundingBuilder", name := "layWithBase", desc := "(ILPinwheelKernel$Clients;LPinwheelKernel$Cycle;)Z" } : Jvm.MethodName)) ∈ mw := mw_in (List.mem_append_right _ (List.mem_append_right _ (List.mem_append_left _ (List.mem_of_getElem? (i := 162) rfl)))) rfl
theorem wd_404 : (Jvm.Cond.instanceMethod ({ cls := "PinwheelKernel$RoundingBuilder", name := "layWithBase", desc := "(ILPinwheelKernel$Clients;LPinwheelKernel$Cycle;)Z" } : Jvm.MethodName)) ∈ mw := mw_in (List.mem_append_right _ (List.mem_append_right _ (List.mem_append_left _ (List.mem_of_getElem? (i := 164) rfl)))) rfl
theorem wd_405 : (Jvm.Cond.code ({ cls := "PinwheelKernel$RoundingBuilder", name := "layWithBase", desc := "(ILPinwheelKernel$Clients;LPinwheelKernel$Cycle;)Z" } : Jvm.MethodName) prog_4_method_4_code (7 : Nat) (Option.some Jvm.ClassFile.FieldType.boolean)) ∈ mw := mw_in (List.mem_append_right _ (List.mem_append_right _ (List.mem_append_left _ (List.mem_of_getElem? (i := 165) rfl)))) rfl
theorem wd_406 : (Jvm.Cond.methodLink "PinwheelKernel$RoundingBuilder" (28 : Nat) ({ cls := "PinwheelKernel$RoundingBuilder", name := "roundAll", desc := "(ILPinwheelKernel$Clients;)I" } : Jvm.MethodName)) ∈ mw := mw_in (List.mem_append_right _ (List.mem_append_right _ (List.mem_append_left _ (List.mem_of_getElem? (i := 166) rfl)))) rfl
theorem wd_408 : (Jvm.Cond.instanceMethod ({ cls := "PinwheelKernel$RoundingBuilder", name := "roundAll", desc := "(ILPinwheelKernel$Clients;)I" } : Jvm.MethodName)) ∈ mw := mw_in (List.mem_append_right _ (List.mem_append_right _ (List.mem_append_left _ (List.mem_of_getElem? (i := 168) rfl)))) rfl
theorem wd_409 : (Jvm.Cond.code ({ cls := "PinwheelKernel$RoundingBuilder", name := "roundAll", desc := "(ILPinwheelKernel$Clients;)I" } : Jvm.MethodName) prog_4_method_5_code (5 : Nat) (Option.some Jvm.ClassFile.FieldType.int)) ∈ mw := mw_in (List.mem_append_right _ (List.mem_append_right _ (List.mem_append_left _ (List.mem_of_getElem? (i := 169) rfl)))) rfl
theorem wd_410 : (Jvm.Cond.methodLink "PinwheelKernel$RoundingBuilder" (32 : Nat) ({ cls := "PinwheelKernel$Clients", name := "count", desc := "()I" } : Jvm.MethodName)) ∈ mw := mw_in (List.mem_append_right _ (List.mem_append_right _ (List.mem_append_left _ (List.mem_of_getElem? (i := 170) rfl)))) rfl
theorem wd_411 : (Jvm.Cond.methodLink "PinwheelKernel$RoundingBuilder" (49 : Nat) ({ cls := "PinwheelKernel$Clients", name := "spanAt", desc := "(I)I" } : Jvm.MethodName)) ∈ mw := mw_in (List.mem_append_right _ (List.mem_append_right _ (List.mem_append_left _ (List.mem_of_getElem? (i := 171) rfl)))) rfl
theorem wd_412 : (Jvm.Cond.methodLink "PinwheelKernel$RoundingBuilder" (53 : Nat) ({ cls := "PinwheelKernel$RoundingBuilder", name := "roundDown", desc := "(II)I" } : Jvm.MethodName)) ∈ mw := mw_in (List.mem_append_right _ (List.mem_append_right _ (List.mem_append_left _ (List.mem_of_getElem? (i := 172) rfl)))) rfl
theorem wd_413 : (Jvm.Cond.static ({ cls := "PinwheelKernel$RoundingBuilder", name := "roundDown", desc := "(II)I" } : Jvm.MethodName)) ∈ mw := mw_in (List.mem_append_right _ (List.mem_append_right _ (List.mem_append_left _ (List.mem_of_getElem? (i := 173) rfl)))) rfl
theorem wd_414 : (Jvm.Cond.code ({ cls := "PinwheelKernel$RoundingBuilder", name := "roundDown", desc := "(II)I" } : Jvm.MethodName) prog_4_method_8_code (4 : Nat) (Option.some Jvm.ClassFile.FieldType.int)) ∈ mw := mw_in (List.mem_append_right _ (List.mem_append_right _ (List.mem_append_left _ (List.mem_of_getElem? (i := 174) rfl)))) rfl
theorem wd_415 : (Jvm.Cond.methodLink "PinwheelKernel$RoundingBuilder" (56 : Nat) ({ cls := "java/lang/Math", name := "max", desc := "(II)I" } : Jvm.MethodName)) ∈ mw := mw_in (List.mem_append_right _ (List.mem_append_right _ (List.mem_append_left _ (List.mem_of_getElem? (i := 175) rfl)))) rfl
theorem wd_416 : (Jvm.Cond.methodLink "PinwheelKernel$RoundingBuilder" (35 : Nat) ({ cls := "PinwheelKernel$RoundingBuilder", name := "placesNeeded", desc := "(II)I" } : Jvm.MethodName)) ∈ mw := mw_in (List.mem_append_right _ (List.mem_append_right _ (List.mem_append_left _ (List.mem_of_getElem? (i := 176) rfl)))) rfl
theorem wd_418 : (Jvm.Cond.instanceMethod ({ cls := "PinwheelKernel$RoundingBuilder", name := "placesNeeded", desc := "(II)I" } : Jvm.MethodName)) ∈ mw := mw_in (List.mem_append_right _ (List.mem_append_right _ (List.mem_append_left _ (List.mem_of_getElem? (i := 178) rfl)))) rfl
theorem wd_419 : (Jvm.Cond.code ({ cls := "PinwheelKernel$RoundingBuilder", name := "placesNeeded", desc := "(II)I" } : Jvm.MethodName) prog_4_method_6_code (5 : Nat) (Option.some Jvm.ClassFile.FieldType.int)) ∈ mw := mw_in (List.mem_append_right _ (List.mem_append_right _ (List.mem_append_left _ (List.mem_of_getElem? (i := 179) rfl)))) rfl
theorem wd_420 : (Jvm.Cond.methodLink "PinwheelKernel$RoundingBuilder" (39 : Nat) ({ cls := "PinwheelKernel$Cycle", name := "clear", desc := "(I)V" } : Jvm.MethodName)) ∈ mw := mw_in (List.mem_append_right _ (List.mem_append_right _ (List.mem_append_left _ (List.mem_of_getElem? (i := 180) rfl)))) rfl
theorem wd_421 : (Jvm.Cond.instanceMethod ({ cls := "PinwheelKernel$Cycle", name := "clear", desc := "(I)V" } : Jvm.MethodName)) ∈ mw := mw_in (List.mem_append_right _ (List.mem_append_right _ (List.mem_append_left _ (List.mem_of_getElem? (i := 181) rfl)))) rfl
theorem wd_422 : (Jvm.Cond.selects "PinwheelKernel$Cycle" ({ cls := "PinwheelKernel$Cycle", name := "clear", desc := "(I)V" } : Jvm.MethodName) ({ cls := "PinwheelKernel$Cycle", name := "clear", desc := "(I)V" } : Jvm.MethodName)) ∈ mw := mw_in (List.mem_append_right _ (List.mem_append_right _ (List.mem_append_left _ (List.mem_of_getElem? (i := 182) rfl)))) rfl
theorem wd_423 : (Jvm.Cond.code ({ cls := "PinwheelKernel$Cycle", name := "clear", desc := "(I)V" } : Jvm.MethodName) prog_3_method_7_code (2 : Nat) (Option.none : Option Jvm.ClassFile.FieldType)) ∈ mw := mw_in (List.mem_append_right _ (List.mem_append_right _ (List.mem_append_left _ (List.mem_of_getElem? (i := 183) rfl)))) rfl
theorem wd_424 : (Jvm.Cond.methodLink "PinwheelKernel$Cycle" (22 : Nat) ({ cls := "PinwheelKernel$Cycle", name := "makeRoom", desc := "(I)V" } : Jvm.MethodName)) ∈ mw := mw_in (List.mem_append_right _ (List.mem_append_right _ (List.mem_append_left _ (List.mem_of_getElem? (i := 184) rfl)))) rfl
theorem wd_426 : (Jvm.Cond.instanceMethod ({ cls := "PinwheelKernel$Cycle", name := "makeRoom", desc := "(I)V" } : Jvm.MethodName)) ∈ mw := mw_in (List.mem_append_right _ (List.mem_append_right _ (List.mem_append_left _ (List.mem_of_getElem? (i := 186) rfl)))) rfl
theorem wd_427 : (Jvm.Cond.code ({ cls := "PinwheelKernel$Cycle", name := "makeRoom", desc := "(I)V" } : Jvm.MethodName) prog_3_method_14_code (2 : Nat) (Option.none : Option Jvm.ClassFile.FieldType)) ∈ mw := mw_in (List.mem_append_right _ (List.mem_append_right _ (List.mem_append_left _ (List.mem_of_getElem? (i := 187) rfl)))) rfl
theorem wd_428 : (Jvm.Cond.methodLink "PinwheelKernel$Cycle" (26 : Nat) ({ cls := "java/util/Arrays", name := "fill", desc := "([IIII)V" } : Jvm.MethodName)) ∈ mw := mw_in (List.mem_append_right _ (List.mem_append_right _ (List.mem_append_left _ (List.mem_of_getElem? (i := 188) rfl)))) rfl
theorem wd_429 : (Jvm.Cond.static ({ cls := "java/util/Arrays", name := "fill", desc := "([IIII)V" } : Jvm.MethodName)) ∈ mw := mw_in (List.mem_append_right _ (List.mem_append_right _ (List.mem_append_left _ (List.mem_of_getElem? (i := 189) rfl)))) rfl
theorem wd_430 : (Jvm.Cond.code ({ cls := "java/util/Arrays", name := "fill", desc := "([IIII)V" } : Jvm.MethodName) prog_25_method_104_code (5 : Nat) (Option.none : Option Jvm.ClassFile.FieldType)) ∈ mw := mw_in (List.mem_append_right _ (List.mem_append_right _ (List.mem_append_left _ (List.mem_of_getElem? (i := 190) rfl)))) rfl
theorem wd_431 : (Jvm.Cond.methodLink "java/util/Arrays" (13 : Nat) ({ cls := "java/util/Arrays", name := "rangeCheck", desc := "(III)V" } : Jvm.MethodName)) ∈ mw := mw_in (List.mem_append_right _ (List.mem_append_right _ (List.mem_append_left _ (List.mem_of_getElem? (i := 191) rfl)))) rfl
theorem wd_432 : (Jvm.Cond.static ({ cls := "java/util/Arrays", name := "rangeCheck", desc := "(III)V" } : Jvm.MethodName)) ∈ mw := mw_in (List.mem_append_right _ (List.mem_append_right _ (List.mem_append_left _ (List.mem_of_getElem? (i := 192) rfl)))) rfl
theorem wd_433 : (Jvm.Cond.code ({ cls := "java/util/Arrays", name := "rangeCheck", desc := "(III)V" } : Jvm.MethodName) prog_25_method_30_code (3 : Nat) (Option.none : Option Jvm.ClassFile.FieldType)) ∈ mw := mw_in (List.mem_append_right _ (List.mem_append_right _ (List.mem_append_left _ (List.mem_of_getElem? (i := 193) rfl)))) rfl
theorem wd_434 : (Jvm.Cond.classLink "java/util/Arrays" (43 : Nat) "java/lang/IllegalArgumentException") ∈ mw := mw_in (List.mem_append_right _ (List.mem_append_right _ (List.mem_append_left _ (List.mem_of_getElem? (i := 194) rfl)))) rfl
theorem wd_466 : (Jvm.Cond.arrayClass Jvm.ClassFile.FieldType.byte) ∈ mw := mw_in (List.mem_append_right _ (List.mem_append_right _ (List.mem_append_left _ (List.mem_of_getElem? (i := 226) rfl)))) rfl
theorem wd_488 : (Jvm.Cond.static ({ cls := "jdk/internal/util/ArraysSupport", name := "newLength", desc := "(III)I" } : Jvm.MethodName)) ∈ mw := mw_in (List.mem_append_right _ (List.mem_append_right _ (List.mem_append_right _ (List.mem_append_left _ (List.mem_of_getElem? (i := 8) rfl))))) rfl
theorem wd_489 : (Jvm.Cond.code ({ cls := "jdk/internal/util/ArraysSupport", name := "newLength", desc := "(III)I" } : Jvm.MethodName) prog_27_method_27_code (4 : Nat) (Option.some Jvm.ClassFile.FieldType.int)) ∈ mw := mw_in (List.mem_append_right _ (List.mem_append_right _ (List.mem_append_right _ (List.mem_append_left _ (List.mem_of_getElem? (i := 9) rfl))))) rfl
theorem wd_490 : (Jvm.Cond.methodLink "jdk/internal/util/ArraysSupport" (194 : Nat) ({ cls := "java/lang/Math", name := "max", desc := "(II)I" } : Jvm.MethodName)) ∈ mw := mw_in (List.mem_append_right _ (List.mem_append_right _ (List.mem_append_right _ (List.mem_append_left _ (List.mem_of_getElem? (i := 10) rfl))))) rfl
theorem wd_491 : (Jvm.Cond.constant "jdk/internal/util/ArraysSupport" (200 : Nat) (2147483639 : Int32)) ∈ mw := mw_in (List.mem_append_right _ (List.mem_append_right _ (List.mem_append_right _ (List.mem_append_left _ (List.mem_of_getElem? (i := 11) rfl))))) rfl
theorem wd_492 : (Jvm.Cond.methodLink "jdk/internal/util/ArraysSupport" (201 : Nat) ({ cls := "jdk/internal/util/ArraysSupport", name := "hugeLength", desc := "(II)I" } : Jvm.MethodName)) ∈ mw := mw_in (List.mem_append_right _ (List.mem_append_right _ (List.mem_append_right _ (List.mem_append_left _ (List.mem_of_getElem? (i := 12) rfl))))) rfl
theorem wd_493 : (Jvm.Cond.static ({ cls := "jdk/internal/util/ArraysSupport", name := "hugeLength", desc := "(II)I" } : Jvm.MethodName)) ∈ mw := mw_in (List.mem_append_right _ (List.mem_append_right _ (List.mem_append_right _ (List.mem_append_left _ (List.mem_of_getElem? (i := 13) rfl))))) rfl
theorem wd_494 : (Jvm.Cond.code ({ cls := "jdk/internal/util/ArraysSupport", name := "hugeLength", desc := "(II)I" } : Jvm.MethodName) prog_27_method_28_code (3 : Nat) (Option.some Jvm.ClassFile.FieldType.int)) ∈ mw := mw_in (List.mem_append_right _ (List.mem_append_right _ (List.mem_append_right _ (List.mem_append_left _ (List.mem_of_getElem? (i := 14) rfl))))) rfl
theorem wd_497 : (Jvm.Cond.static ({ cls := "java/util/Arrays", name := "copyOf", desc := "([BI)[B" } : Jvm.MethodName)) ∈ mw := mw_in (List.mem_append_right _ (List.mem_append_right _ (List.mem_append_right _ (List.mem_append_left _ (List.mem_of_getElem? (i := 17) rfl))))) rfl
theorem wd_498 : (Jvm.Cond.code ({ cls := "java/util/Arrays", name := "copyOf", desc := "([BI)[B" } : Jvm.MethodName) prog_25_method_121_code (3 : Nat) (Option.some (Jvm.ClassFile.FieldType.array Jvm.ClassFile.FieldType.byte))) ∈ mw := mw_in (List.mem_append_right _ (List.mem_append_right _ (List.mem_append_right _ (List.mem_append_left _ (List.mem_of_getElem? (i := 18) rfl))))) rfl
theorem wd_499 : (Jvm.Cond.methodLink "java/util/Arrays" (310 : Nat) ({ cls := "[B", name := "clone", desc := "()Ljava/lang/Object;" } : Jvm.MethodName)) ∈ mw := mw_in (List.mem_append_right _ (List.mem_append_right _ (List.mem_append_right _ (List.mem_append_left _ (List.mem_of_getElem? (i := 19) rfl))))) rfl
theorem wd_500 : (Jvm.Cond.sameMethod "[B" "java/lang/Object" "clone" "()Ljava/lang/Object;") ∈ mw := mw_in (List.mem_append_right _ (List.mem_append_right _ (List.mem_append_right _ (List.mem_append_left _ (List.mem_of_getElem? (i := 20) rfl))))) rfl
theorem wd_501 : (Jvm.Cond.native ({ cls := "java/lang/Object", name := "clone", desc := "()Ljava/lang/Object;" } : Jvm.MethodName)) ∈ mw := mw_in (List.mem_append_right _ (List.mem_append_right _ (List.mem_append_right _ (List.mem_append_left _ (List.mem_of_getElem? (i := 21) rfl))))) rfl
theorem wd_502 : (Jvm.Cond.instanceMethod ({ cls := "java/lang/Object", name := "clone", desc := "()Ljava/lang/Object;" } : Jvm.MethodName)) ∈ mw := mw_in (List.mem_append_right _ (List.mem_append_right _ (List.mem_append_right _ (List.mem_append_left _ (List.mem_of_getElem? (i := 22) rfl))))) rfl
theorem wd_503 : (Jvm.Cond.selects "[B" ({ cls := "[B", name := "clone", desc := "()Ljava/lang/Object;" } : Jvm.MethodName) ({ cls := "java/lang/Object", name := "clone", desc := "()Ljava/lang/Object;" } : Jvm.MethodName)) ∈ mw := mw_in (List.mem_append_right _ (List.mem_append_right _ (List.mem_append_right _ (List.mem_append_left _ (List.mem_of_getElem? (i := 23) rfl))))) rfl
theorem wd_505 : (Jvm.Cond.classLink "java/util/Arrays" (311 : Nat) "[B") ∈ mw := mw_in (List.mem_append_right _ (List.mem_append_right _ (List.mem_append_right _ (List.mem_append_left _ (List.mem_of_getElem? (i := 25) rfl))))) rfl
theorem wd_506 : (Jvm.Cond.methodLink "java/util/Arrays" (304 : Nat) ({ cls := "java/lang/Math", name := "min", desc := "(II)I" } : Jvm.MethodName)) ∈ mw := mw_in (List.mem_append_right _ (List.mem_append_right _ (List.mem_append_right _ (List.mem_append_left _ (List.mem_of_getElem? (i := 26) rfl))))) rfl
theorem wd_507 : (Jvm.Cond.static ({ cls := "java/lang/Math", name := "min", desc := "(II)I" } : Jvm.MethodName)) ∈ mw := mw_in (List.mem_append_right _ (List.mem_append_right _ (List.mem_append_right _ (List.mem_append_left _ (List.mem_of_getElem? (i := 27) rfl))))) rfl
theorem wd_508 : (Jvm.Cond.code ({ cls := "java/lang/Math", name := "min", desc := "(II)I" } : Jvm.MethodName) prog_16_method_69_code (2 : Nat) (Option.some Jvm.ClassFile.FieldType.int)) ∈ mw := mw_in (List.mem_append_right _ (List.mem_append_right _ (List.mem_append_right _ (List.mem_append_left _ (List.mem_of_getElem? (i := 28) rfl))))) rfl
theorem wd_509 : (Jvm.Cond.methodLink "java/util/Arrays" (150 : Nat) ({ cls := "java/lang/System", name := "arraycopy", desc := "(Ljava/lang/Object;ILjava/lang/Object;II)V" } : Jvm.MethodName)) ∈ mw := mw_in (List.mem_append_right _ (List.mem_append_right _ (List.mem_append_right _ (List.mem_append_left _ (List.mem_of_getElem? (i := 29) rfl))))) rfl
theorem wd_510 : (Jvm.Cond.static ({ cls := "java/lang/System", name := "arraycopy", desc := "(Ljava/lang/Object;ILjava/lang/Object;II)V" } : Jvm.MethodName)) ∈ mw := mw_in (List.mem_append_right _ (List.mem_append_right _ (List.mem_append_right _ (List.mem_append_left _ (List.mem_of_getElem? (i := 30) rfl))))) rfl
theorem wd_511 : (Jvm.Cond.native ({ cls := "java/lang/System", name := "arraycopy", desc := "(Ljava/lang/Object;ILjava/lang/Object;II)V" } : Jvm.MethodName)) ∈ mw := mw_in (List.mem_append_right _ (List.mem_append_right _ (List.mem_append_right _ (List.mem_append_left _ (List.mem_of_getElem? (i := 31) rfl))))) rfl
theorem wd_641 : (Jvm.Cond.static ({ cls := "java/util/Arrays", name := "copyOfRange", desc := "([BII)[B" } : Jvm.MethodName)) ∈ mw := mw_in (List.mem_append_right _ (List.mem_append_right _ (List.mem_append_right _ (List.mem_append_left _ (List.mem_of_getElem? (i := 161) rfl))))) rfl
theorem wd_642 : (Jvm.Cond.code ({ cls := "java/util/Arrays", name := "copyOfRange", desc := "([BII)[B" } : Jvm.MethodName) prog_25_method_132_code (3 : Nat) (Option.some (Jvm.ClassFile.FieldType.array Jvm.ClassFile.FieldType.byte))) ∈ mw := mw_in (List.mem_append_right _ (List.mem_append_right _ (List.mem_append_right _ (List.mem_append_left _ (List.mem_of_getElem? (i := 162) rfl))))) rfl
theorem wd_643 : (Jvm.Cond.methodLink "java/util/Arrays" (339 : Nat) ({ cls := "java/util/Arrays", name := "copyOfRangeByte", desc := "([BII)[B" } : Jvm.MethodName)) ∈ mw := mw_in (List.mem_append_right _ (List.mem_append_right _ (List.mem_append_right _ (List.mem_append_left _ (List.mem_of_getElem? (i := 163) rfl))))) rfl
theorem wd_644 : (Jvm.Cond.static ({ cls := "java/util/Arrays", name := "copyOfRangeByte", desc := "([BII)[B" } : Jvm.MethodName)) ∈ mw := mw_in (List.mem_append_right _ (List.mem_append_right _ (List.mem_append_right _ (List.mem_append_left _ (List.mem_of_getElem? (i := 164) rfl))))) rfl
theorem wd_645 : (Jvm.Cond.code ({ cls := "java/util/Arrays", name := "copyOfRangeByte", desc := "([BII)[B" } : Jvm.MethodName) prog_25_method_133_code (5 : Nat) (Option.some (Jvm.ClassFile.FieldType.array Jvm.ClassFile.FieldType.byte))) ∈ mw := mw_in (List.mem_append_right _ (List.mem_append_right _ (List.mem_append_right _ (List.mem_append_left _ (List.mem_of_getElem? (i := 165) rfl))))) rfl
theorem wd_646 : (Jvm.Cond.methodLink "java/util/Arrays" (343 : Nat) ({ cls := "java/util/Arrays", name := "checkLength", desc := "(II)V" } : Jvm.MethodName)) ∈ mw := mw_in (List.mem_append_right _ (List.mem_append_right _ (List.mem_append_right _ (List.mem_append_left _ (List.mem_of_getElem? (i := 166) rfl))))) rfl
theorem wd_647 : (Jvm.Cond.static ({ cls := "java/util/Arrays", name := "checkLength", desc := "(II)V" } : Jvm.MethodName)) ∈ mw := mw_in (List.mem_append_right _ (List.mem_append_right _ (List.mem_append_right _ (List.mem_append_left _ (List.mem_of_getElem? (i := 167) rfl))))) rfl
theorem wd_648 : (Jvm.Cond.code ({ cls := "java/util/Arrays", name := "checkLength", desc := "(II)V" } : Jvm.MethodName) prog_25_method_131_code (2 : Nat) (Option.none : Option Jvm.ClassFile.FieldType)) ∈ mw := mw_in (List.mem_append_right _ (List.mem_append_right _ (List.mem_append_right _ (List.mem_append_left _ (List.mem_of_getElem? (i := 168) rfl))))) rfl
theorem wd_650 : (Jvm.Cond.methodLink "java/util/Arrays" (65 : Nat) ({ cls := "java/lang/IllegalArgumentException", name := "<init>", desc := "(Ljava/lang/String;)V" } : Jvm.MethodName)) ∈ mw := mw_in (List.mem_append_right _ (List.mem_append_right _ (List.mem_append_right _ (List.mem_append_left _ (List.mem_of_getElem? (i := 170) rfl))))) rfl
theorem wd_651 : (Jvm.Cond.instanceMethod ({ cls := "java/lang/IllegalArgumentException", name := "<init>", desc := "(Ljava/lang/String;)V" } : Jvm.MethodName)) ∈ mw := mw_in (List.mem_append_right _ (List.mem_append_right _ (List.mem_append_right _ (List.mem_append_left _ (List.mem_of_getElem? (i := 171) rfl))))) rfl
theorem wd_652 : (Jvm.Cond.code ({ cls := "java/lang/IllegalArgumentException", name := "<init>", desc := "(Ljava/lang/String;)V" } : Jvm.MethodName) prog_12_method_2_code (2 : Nat) (Option.none : Option Jvm.ClassFile.FieldType)) ∈ mw := mw_in (List.mem_append_right _ (List.mem_append_right _ (List.mem_append_right _ (List.mem_append_left _ (List.mem_of_getElem? (i := 172) rfl))))) rfl
theorem wd_653 : (Jvm.Cond.methodLink "java/lang/IllegalArgumentException" (7 : Nat) ({ cls := "java/lang/RuntimeException", name := "<init>", desc := "(Ljava/lang/String;)V" } : Jvm.MethodName)) ∈ mw := mw_in (List.mem_append_right _ (List.mem_append_right _ (List.mem_append_right _ (List.mem_append_left _ (List.mem_of_getElem? (i := 173) rfl))))) rfl
theorem wd_654 : (Jvm.Cond.instanceMethod ({ cls := "java/lang/RuntimeException", name := "<init>", desc := "(Ljava/lang/String;)V" } : Jvm.MethodName)) ∈ mw := mw_in (List.mem_append_right _ (List.mem_append_right _ (List.mem_append_right _ (List.mem_append_left _ (List.mem_of_getElem? (i := 174) rfl))))) rfl
theorem wd_655 : (Jvm.Cond.code ({ cls := "java/lang/RuntimeException", name := "<init>", desc := "(Ljava/lang/String;)V" } : Jvm.MethodName) prog_17_method_2_code (2 : Nat) (Option.none : Option Jvm.ClassFile.FieldType)) ∈ mw := mw_in (List.mem_append_right _ (List.mem_append_right _ (List.mem_append_right _ (List.mem_append_left _ (List.mem_of_getElem? (i := 175) rfl))))) rfl
theorem wd_656 : (Jvm.Cond.methodLink "java/lang/RuntimeException" (7 : Nat) ({ cls := "java/lang/Exception", name := "<init>", desc := "(Ljava/lang/String;)V" } : Jvm.MethodName)) ∈ mw := mw_in (List.mem_append_right _ (List.mem_append_right _ (List.mem_append_right _ (List.mem_append_left _ (List.mem_of_getElem? (i := 176) rfl))))) rfl
theorem wd_657 : (Jvm.Cond.instanceMethod ({ cls := "java/lang/Exception", name := "<init>", desc := "(Ljava/lang/String;)V" } : Jvm.MethodName)) ∈ mw := mw_in (List.mem_append_right _ (List.mem_append_right _ (List.mem_append_right _ (List.mem_append_left _ (List.mem_of_getElem? (i := 177) rfl))))) rfl
theorem wd_658 : (Jvm.Cond.code ({ cls := "java/lang/Exception", name := "<init>", desc := "(Ljava/lang/String;)V" } : Jvm.MethodName) prog_11_method_2_code (2 : Nat) (Option.none : Option Jvm.ClassFile.FieldType)) ∈ mw := mw_in (List.mem_append_right _ (List.mem_append_right _ (List.mem_append_right _ (List.mem_append_left _ (List.mem_of_getElem? (i := 178) rfl))))) rfl
theorem wd_659 : (Jvm.Cond.methodLink "java/lang/Exception" (7 : Nat) ({ cls := "java/lang/Throwable", name := "<init>", desc := "(Ljava/lang/String;)V" } : Jvm.MethodName)) ∈ mw := mw_in (List.mem_append_right _ (List.mem_append_right _ (List.mem_append_right _ (List.mem_append_left _ (List.mem_of_getElem? (i := 179) rfl))))) rfl
theorem wd_660 : (Jvm.Cond.instanceMethod ({ cls := "java/lang/Throwable", name := "<init>", desc := "(Ljava/lang/String;)V" } : Jvm.MethodName)) ∈ mw := mw_in (List.mem_append_right _ (List.mem_append_right _ (List.mem_append_right _ (List.mem_append_left _ (List.mem_of_getElem? (i := 180) rfl))))) rfl
theorem wd_661 : (Jvm.Cond.code ({ cls := "java/lang/Throwable", name := "<init>", desc := "(Ljava/lang/String;)V" } : Jvm.MethodName) prog_23_method_2_code (2 : Nat) (Option.none : Option Jvm.ClassFile.FieldType)) ∈ mw := mw_in (List.mem_append_right _ (List.mem_append_right _ (List.mem_append_right _ (List.mem_append_left _ (List.mem_of_getElem? (i := 181) rfl))))) rfl
theorem wd_686 : (Jvm.Cond.classLink "java/util/Arrays" (68 : Nat) "java/lang/ArrayIndexOutOfBoundsException") ∈ mw := mw_in (List.mem_append_right _ (List.mem_append_right _ (List.mem_append_right _ (List.mem_append_left _ (List.mem_of_getElem? (i := 206) rfl))))) rfl
theorem wd_687 : (Jvm.Cond.instantiable "java/lang/ArrayIndexOutOfBoundsException" (6 : Nat)) ∈ mw := mw_in (List.mem_append_right _ (List.mem_append_right _ (List.mem_append_right _ (List.mem_append_left _ (List.mem_of_getElem? (i := 207) rfl))))) rfl
theorem wd_688 : (Jvm.Cond.methodLink "java/util/Arrays" (70 : Nat) ({ cls := "java/lang/ArrayIndexOutOfBoundsException", name := "<init>", desc := "(I)V" } : Jvm.MethodName)) ∈ mw := mw_in (List.mem_append_right _ (List.mem_append_right _ (List.mem_append_right _ (List.mem_append_left _ (List.mem_of_getElem? (i := 208) rfl))))) rfl
theorem wd_689 : (Jvm.Cond.instanceMethod ({ cls := "java/lang/ArrayIndexOutOfBoundsException", name := "<init>", desc := "(I)V" } : Jvm.MethodName)) ∈ mw := mw_in (List.mem_append_right _ (List.mem_append_right _ (List.mem_append_right _ (List.mem_append_left _ (List.mem_of_getElem? (i := 209) rfl))))) rfl
theorem wd_690 : (Jvm.Cond.code ({ cls := "java/lang/ArrayIndexOutOfBoundsException", name := "<init>", desc := "(I)V" } : Jvm.MethodName) prog_9_method_3_code (2 : Nat) (Option.none : Option Jvm.ClassFile.FieldType)) ∈ mw := mw_in (List.mem_append_right _ (List.mem_append_right _ (List.mem_append_right _ (List.mem_append_left _ (List.mem_of_getElem? (i := 210) rfl))))) rfl
theorem wd_697 : (Jvm.Cond.methodLink "java/lang/ArrayIndexOutOfBoundsException" (7 : Nat) ({ cls := "java/lang/IndexOutOfBoundsException", name := "<init>", desc := "(Ljava/lang/String;)V" } : Jvm.MethodName)) ∈ mw := mw_in (List.mem_append_right _ (List.mem_append_right _ (List.mem_append_right _ (List.mem_append_left _ (List.mem_of_getElem? (i := 217) rfl))))) rfl
theorem wd_698 : (Jvm.Cond.instanceMethod ({ cls := "java/lang/IndexOutOfBoundsException", name := "<init>", desc := "(Ljava/lang/String;)V" } : Jvm.MethodName)) ∈ mw := mw_in (List.mem_append_right _ (List.mem_append_right _ (List.mem_append_right _ (List.mem_append_left _ (List.mem_of_getElem? (i := 218) rfl))))) rfl
theorem wd_699 : (Jvm.Cond.code ({ cls := "java/lang/IndexOutOfBoundsException", name := "<init>", desc := "(Ljava/lang/String;)V" } : Jvm.MethodName) prog_14_method_2_code (2 : Nat) (Option.none : Option Jvm.ClassFile.FieldType)) ∈ mw := mw_in (List.mem_append_right _ (List.mem_append_right _ (List.mem_append_right _ (List.mem_append_left _ (List.mem_of_getElem? (i := 219) rfl))))) rfl
theorem wd_700 : (Jvm.Cond.methodLink "java/lang/IndexOutOfBoundsException" (7 : Nat) ({ cls := "java/lang/RuntimeException", name := "<init>", desc := "(Ljava/lang/String;)V" } : Jvm.MethodName)) ∈ mw := mw_in (List.mem_append_right _ (List.mem_append_right _ (List.mem_append_right _ (List.mem_append_left _ (List.mem_of_getElem? (i := 220) rfl))))) rfl
theorem wd_701 : (Jvm.Cond.lays "java/lang/ArrayIndexOutOfBoundsException" "java/lang/Throwable" "backtrace" "Ljava/lang/Object;") ∈ mw := mw_in (List.mem_append_right _ (List.mem_append_right _ (List.mem_append_right _ (List.mem_append_left _ (List.mem_of_getElem? (i := 221) rfl))))) rfl
theorem wd_702 : (Jvm.Cond.lays "java/lang/ArrayIndexOutOfBoundsException" "java/lang/Throwable" "detailMessage" "Ljava/lang/String;") ∈ mw := mw_in (List.mem_append_right _ (List.mem_append_right _ (List.mem_append_right _ (List.mem_append_left _ (List.mem_of_getElem? (i := 222) rfl))))) rfl
theorem wd_703 : (Jvm.Cond.lays "java/lang/ArrayIndexOutOfBoundsException" "java/lang/Throwable" "cause" "Ljava/lang/Throwable;") ∈ mw := mw_in (List.mem_append_right _ (List.mem_append_right _ (List.mem_append_right _ (List.mem_append_left _ (List.mem_of_getElem? (i := 223) rfl))))) rfl
theorem wd_704 : (Jvm.Cond.lays "java/lang/ArrayIndexOutOfBoundsException" "java/lang/Throwable" "stackTrace" "[Ljava/lang/StackTraceElement;") ∈ mw := mw_in (List.mem_append_right _ (List.mem_append_right _ (List.mem_append_right _ (List.mem_append_left _ (List.mem_of_getElem? (i := 224) rfl))))) rfl
theorem wd_705 : (Jvm.Cond.lays "java/lang/ArrayIndexOutOfBoundsException" "java/lang/Throwable" "depth" "I") ∈ mw := mw_in (List.mem_append_right _ (List.mem_append_right _ (List.mem_append_right _ (List.mem_append_left _ (List.mem_of_getElem? (i := 225) rfl))))) rfl
theorem wd_706 : (Jvm.Cond.lays "java/lang/ArrayIndexOutOfBoundsException" "java/lang/Throwable" "suppressedExceptions" "Ljava/util/List;") ∈ mw := mw_in (List.mem_append_right _ (List.mem_append_right _ (List.mem_append_right _ (List.mem_append_left _ (List.mem_of_getElem? (i := 226) rfl))))) rfl
theorem wd_707 : (Jvm.Cond.superclass "java/lang/ArrayIndexOutOfBoundsException" "java/lang/IndexOutOfBoundsException") ∈ mw := mw_in (List.mem_append_right _ (List.mem_append_right _ (List.mem_append_right _ (List.mem_append_left _ (List.mem_of_getElem? (i := 227) rfl))))) rfl
theorem wd_708 : (Jvm.Cond.methodLink "PinwheelKernel$RoundingBuilder" (45 : Nat) ({ cls := "PinwheelKernel$RoundingBuilder", name := "giveToAllWith", desc := "(ILPinwheelKernel$Clients;LPinwheelKernel$Cycle;)V" } : Jvm.MethodName)) ∈ mw := mw_in (List.mem_append_right _ (List.mem_append_right _ (List.mem_append_right _ (List.mem_append_left _ (List.mem_of_getElem? (i := 228) rfl))))) rfl
theorem wd_710 : (Jvm.Cond.instanceMethod ({ cls := "PinwheelKernel$RoundingBuilder", name := "giveToAllWith", desc := "(ILPinwheelKernel$Clients;LPinwheelKernel$Cycle;)V" } : Jvm.MethodName)) ∈ mw := mw_in (List.mem_append_right _ (List.mem_append_right _ (List.mem_append_right _ (List.mem_append_left _ (List.mem_of_getElem? (i := 230) rfl))))) rfl
theorem wd_711 : (Jvm.Cond.code ({ cls := "PinwheelKernel$RoundingBuilder", name := "giveToAllWith", desc := "(ILPinwheelKernel$Clients;LPinwheelKernel$Cycle;)V" } : Jvm.MethodName) prog_4_method_7_code (5 : Nat) (Option.none : Option Jvm.ClassFile.FieldType)) ∈ mw := mw_in (List.mem_append_right _ (List.mem_append_right _ (List.mem_append_right _ (List.mem_append_left _ (List.mem_of_getElem? (i := 231) rfl))))) rfl
theorem wd_712 : (Jvm.Cond.methodLink "PinwheelKernel$RoundingBuilder" (61 : Nat) ({ cls := "PinwheelKernel$Clients", name := "idAt", desc := "(I)I" } : Jvm.MethodName)) ∈ mw := mw_in (List.mem_append_right _ (List.mem_append_right _ (List.mem_append_right _ (List.mem_append_left _ (List.mem_of_getElem? (i := 232) rfl))))) rfl
theorem wd_713 : (Jvm.Cond.methodLink "PinwheelKernel$RoundingBuilder" (64 : Nat) ({ cls := "PinwheelKernel$Cycle", name := "giveTo", desc := "(II)V" } : Jvm.MethodName)) ∈ mw := mw_in (List.mem_append_right _ (List.mem_append_right _ (List.mem_append_right _ (List.mem_append_left _ (List.mem_of_getElem? (i := 233) rfl))))) rfl
theorem wd_714 : (Jvm.Cond.instanceMethod ({ cls := "PinwheelKernel$Cycle", name := "giveTo", desc := "(II)V" } : Jvm.MethodName)) ∈ mw := mw_in (List.mem_append_right _ (List.mem_append_right _ (List.mem_append_right _ (List.mem_append_left _ (List.mem_of_getElem? (i := 234) rfl))))) rfl
theorem wd_715 : (Jvm.Cond.selects "PinwheelKernel$Cycle" ({ cls := "PinwheelKernel$Cycle", name := "giveTo", desc := "(II)V" } : Jvm.MethodName) ({ cls := "PinwheelKernel$Cycle", name := "giveTo", desc := "(II)V" } : Jvm.MethodName)) ∈ mw := mw_in (List.mem_append_right _ (List.mem_append_right _ (List.mem_append_right _ (List.mem_append_left _ (List.mem_of_getElem? (i := 235) rfl))))) rfl
theorem wd_716 : (Jvm.Cond.code ({ cls := "PinwheelKernel$Cycle", name := "giveTo", desc := "(II)V" } : Jvm.MethodName) prog_3_method_9_code (4 : Nat) (Option.none : Option Jvm.ClassFile.FieldType)) ∈ mw := mw_in (List.mem_append_right _ (List.mem_append_right _ (List.mem_append_right _ (List.mem_append_left _ (List.mem_of_getElem? (i := 236) rfl))))) rfl
theorem wd_717 : (Jvm.Cond.methodLink "PinwheelKernel$Cycle" (38 : Nat) ({ cls := "PinwheelKernel$Cycle", name := "firstFree", desc := "()I" } : Jvm.MethodName)) ∈ mw := mw_in (List.mem_append_right _ (List.mem_append_right _ (List.mem_append_right _ (List.mem_append_left _ (List.mem_of_getElem? (i := 237) rfl))))) rfl
theorem wd_719 : (Jvm.Cond.instanceMethod ({ cls := "PinwheelKernel$Cycle", name := "firstFree", desc := "()I" } : Jvm.MethodName)) ∈ mw := mw_in (List.mem_append_right _ (List.mem_append_right _ (List.mem_append_right _ (List.mem_append_left _ (List.mem_of_getElem? (i := 239) rfl))))) rfl
theorem wd_720 : (Jvm.Cond.code ({ cls := "PinwheelKernel$Cycle", name := "firstFree", desc := "()I" } : Jvm.MethodName) prog_3_method_13_code (2 : Nat) (Option.some Jvm.ClassFile.FieldType.int)) ∈ mw := mw_in (List.mem_append_right _ (List.mem_append_right _ (List.mem_append_right _ (List.mem_append_right _ (List.mem_append_left _ (List.mem_of_getElem? (i := 0) rfl)))))) rfl
theorem wd_721 : (Jvm.Cond.methodLink "PinwheelKernel" (151 : Nat) ({ cls := "PinwheelKernel$RoundingBuilder", name := "layByBases", desc := "(LPinwheelKernel$Clients;LPinwheelKernel$Cycle;)Z" } : Jvm.MethodName)) ∈ mw := mw_in (List.mem_append_right _ (List.mem_append_right _ (List.mem_append_right _ (List.mem_append_right _ (List.mem_append_left _ (List.mem_of_getElem? (i := 1) rfl)))))) rfl
theorem wd_722 : (Jvm.Cond.instanceMethod ({ cls := "PinwheelKernel$RoundingBuilder", name := "layByBases", desc := "(LPinwheelKernel$Clients;LPinwheelKernel$Cycle;)Z" } : Jvm.MethodName)) ∈ mw := mw_in (List.mem_append_right _ (List.mem_append_right _ (List.mem_append_right _ (List.mem_append_right _ (List.mem_append_left _ (List.mem_of_getElem? (i := 2) rfl)))))) rfl
theorem wd_723 : (Jvm.Cond.selects "PinwheelKernel$RoundingBuilder" ({ cls := "PinwheelKernel$RoundingBuilder", name := "layByBases", desc := "(LPinwheelKernel$Clients;LPinwheelKernel$Cycle;)Z" } : Jvm.MethodName) ({ cls := "PinwheelKernel$RoundingBuilder", name := "layByBases", desc := "(LPinwheelKernel$Clients;LPinwheelKernel$Cycle;)Z" } : Jvm.MethodName)) ∈ mw := mw_in (List.mem_append_right _ (List.mem_append_right _ (List.mem_append_right _ (List.mem_append_right _ (List.mem_append_left _ (List.mem_of_getElem? (i := 3) rfl)))))) rfl
theorem wd_724 : (Jvm.Cond.code ({ cls := "PinwheelKernel$RoundingBuilder", name := "layByBases", desc := "(LPinwheelKernel$Clients;LPinwheelKernel$Cycle;)Z" } : Jvm.MethodName) prog_4_method_3_code (5 : Nat) (Option.some Jvm.ClassFile.FieldType.boolean)) ∈ mw := mw_in (List.mem_append_right _ (List.mem_append_right _ (List.mem_append_right _ (List.mem_append_right _ (List.mem_append_left _ (List.mem_of_getElem? (i := 4) rfl)))))) rfl
theorem wd_725 : (Jvm.Cond.methodLink "PinwheelKernel$RoundingBuilder" (19 : Nat) ({ cls := "PinwheelKernel$Clients", name := "leastSpan", desc := "()I" } : Jvm.MethodName)) ∈ mw := mw_in (List.mem_append_right _ (List.mem_append_right _ (List.mem_append_right _ (List.mem_append_right _ (List.mem_append_left _ (List.mem_of_getElem? (i := 5) rfl)))))) rfl
theorem wd_726 : (Jvm.Cond.instanceMethod ({ cls := "PinwheelKernel$Clients", name := "leastSpan", desc := "()I" } : Jvm.MethodName)) ∈ mw := mw_in (List.mem_append_right _ (List.mem_append_right _ (List.mem_append_right _ (List.mem_append_right _ (List.mem_append_left _ (List.mem_of_getElem? (i := 6) rfl)))))) rfl
theorem wd_727 : (Jvm.Cond.selects "PinwheelKernel$Clients" ({ cls := "PinwheelKernel$Clients", name := "leastSpan", desc := "()I" } : Jvm.MethodName) ({ cls := "PinwheelKernel$Clients", name := "leastSpan", desc := "()I" } : Jvm.MethodName)) ∈ mw := mw_in (List.mem_append_right _ (List.mem_append_right _ (List.mem_append_right _ (List.mem_append_right _ (List.mem_append_left _ (List.mem_of_getElem? (i := 7) rfl)))))) rfl
theorem wd_728 : (Jvm.Cond.code ({ cls := "PinwheelKernel$Clients", name := "leastSpan", desc := "()I" } : Jvm.MethodName) prog_2_method_8_code (3 : Nat) (Option.some Jvm.ClassFile.FieldType.int)) ∈ mw := mw_in (List.mem_append_right _ (List.mem_append_right _ (List.mem_append_right _ (List.mem_append_right _ (List.mem_append_left _ (List.mem_of_getElem? (i := 8) rfl)))))) rfl
theorem wd_729 : (Jvm.Cond.methodLink "PinwheelKernel$Clients" (28 : Nat) ({ cls := "java/lang/Math", name := "min", desc := "(II)I" } : Jvm.MethodName)) ∈ mw := mw_in (List.mem_append_right _ (List.mem_append_right _ (List.mem_append_right _ (List.mem_append_right _ (List.mem_append_left _ (List.mem_of_getElem? (i := 9) rfl)))))) rfl
theorem wd_732 : (Jvm.Cond.methodLink "PinwheelKernel" (154 : Nat) ({ cls := "PinwheelKernel$StateBuilder", name := "lay", desc := "(LPinwheelKernel$Clients;LPinwheelKernel$Cycle;)Z" } : Jvm.MethodName)) ∈ mw := mw_in (List.mem_append_right _ (List.mem_append_right _ (List.mem_append_right _ (List.mem_append_right _ (List.mem_append_left _ (List.mem_of_getElem? (i := 12) rfl)))))) rfl
theorem wd_733 : (Jvm.Cond.instanceMethod ({ cls := "PinwheelKernel$StateBuilder", name := "lay", desc := "(LPinwheelKernel$Clients;LPinwheelKernel$Cycle;)Z" } : Jvm.MethodName)) ∈ mw := mw_in (List.mem_append_right _ (List.mem_append_right _ (List.mem_append_right _ (List.mem_append_right _ (List.mem_append_left _ (List.mem_of_getElem? (i := 13) rfl)))))) rfl
theorem wd_734 : (Jvm.Cond.selects "PinwheelKernel$StateBuilder" ({ cls := "PinwheelKernel$StateBuilder", name := "lay", desc := "(LPinwheelKernel$Clients;LPinwheelKernel$Cycle;)Z" } : Jvm.MethodName) ({ cls := "PinwheelKernel$StateBuilder", name := "lay", desc := "(LPinwheelKernel$Clients;LPinwheelKernel$Cycle;)Z" } : Jvm.MethodName)) ∈ mw := mw_in (List.mem_append_right _ (List.mem_append_right _ (List.mem_append_right _ (List.mem_append_right _ (List.mem_append_left _ (List.mem_of_getElem? (i := 14) rfl)))))) rfl
theorem wd_735 : (Jvm.Cond.code ({ cls := "PinwheelKernel$StateBuilder", name := "lay", desc := "(LPinwheelKernel$Clients;LPinwheelKernel$Cycle;)Z" } : Jvm.MethodName) prog_5_method_2_code (6 : Nat) (Option.some Jvm.ClassFile.FieldType.boolean)) ∈ mw := mw_in (List.mem_append_right _ (List.mem_append_right _ (List.mem_append_right _ (List.mem_append_right _ (List.mem_append_left _ (List.mem_of_getElem? (i := 15) rfl)))))) rfl
theorem wd_736 : (Jvm.Cond.methodLink "PinwheelKernel$StateBuilder" (46 : Nat) ({ cls := "PinwheelKernel$StateBuilder", name := "takes", desc := "(LPinwheelKernel$Clients;)Z" } : Jvm.MethodName)) ∈ mw := mw_in (List.mem_append_right _ (List.mem_append_right _ (List.mem_append_right _ (List.mem_append_right _ (List.mem_append_left _ (List.mem_of_getElem? (i := 16) rfl)))))) rfl
theorem wd_737 : (Jvm.Cond.methodLink "PinwheelKernel$StateBuilder" (50 : Nat) ({ cls := "PinwheelKernel$StateBuilder", name := "startsSafe", desc := "()Z" } : Jvm.MethodName)) ∈ mw := mw_in (List.mem_append_right _ (List.mem_append_right _ (List.mem_append_right _ (List.mem_append_right _ (List.mem_append_left _ (List.mem_of_getElem? (i := 17) rfl)))))) rfl
theorem wd_738 : (Jvm.Cond.methodLink "PinwheelKernel$StateBuilder" (54 : Nat) ({ cls := "java/util/Arrays", name := "fill", desc := "([IIII)V" } : Jvm.MethodName)) ∈ mw := mw_in (List.mem_append_right _ (List.mem_append_right _ (List.mem_append_right _ (List.mem_append_right _ (List.mem_append_left _ (List.mem_of_getElem? (i := 18) rfl)))))) rfl
theorem wd_739 : (Jvm.Cond.methodLink "PinwheelKernel$StateBuilder" (60 : Nat) ({ cls := "PinwheelKernel$StateBuilder", name := "firstSafeTurn", desc := "(I)I" } : Jvm.MethodName)) ∈ mw := mw_in (List.mem_append_right _ (List.mem_append_right _ (List.mem_append_right _ (List.mem_append_right _ (List.mem_append_left _ (List.mem_of_getElem? (i := 19) rfl)))))) rfl
theorem wd_741 : (Jvm.Cond.instanceMethod ({ cls := "PinwheelKernel$StateBuilder", name := "firstSafeTurn", desc := "(I)I" } : Jvm.MethodName)) ∈ mw := mw_in (List.mem_append_right _ (List.mem_append_right _ (List.mem_append_right _ (List.mem_append_right _ (List.mem_append_left _ (List.mem_of_getElem? (i := 21) rfl)))))) rfl
theorem wd_742 : (Jvm.Cond.code ({ cls := "PinwheelKernel$StateBuilder", name := "firstSafeTurn", desc := "(I)I" } : Jvm.MethodName) prog_5_method_14_code (3 : Nat) (Option.some Jvm.ClassFile.FieldType.int)) ∈ mw := mw_in (List.mem_append_right _ (List.mem_append_right _ (List.mem_append_right _ (List.mem_append_right _ (List.mem_append_left _ (List.mem_of_getElem? (i := 22) rfl)))))) rfl
theorem wd_743 : (Jvm.Cond.methodLink "PinwheelKernel$StateBuilder" (112 : Nat) ({ cls := "PinwheelKernel$StateBuilder", name := "leadsToSafe", desc := "(II)Z" } : Jvm.MethodName)) ∈ mw := mw_in (List.mem_append_right _ (List.mem_append_right _ (List.mem_append_right _ (List.mem_append_right _ (List.mem_append_left _ (List.mem_of_getElem? (i := 23) rfl)))))) rfl
theorem wd_745 : (Jvm.Cond.instanceMethod ({ cls := "PinwheelKernel$StateBuilder", name := "leadsToSafe", desc := "(II)Z" } : Jvm.MethodName)) ∈ mw := mw_in (List.mem_append_right _ (List.mem_append_right _ (List.mem_append_right _ (List.mem_append_right _ (List.mem_append_left _ (List.mem_of_getElem? (i := 25) rfl)))))) rfl
theorem wd_746 : (Jvm.Cond.code ({ cls := "PinwheelKernel$StateBuilder", name := "leadsToSafe", desc := "(II)Z" } : Jvm.MethodName) prog_5_method_15_code (3 : Nat) (Option.some Jvm.ClassFile.FieldType.boolean)) ∈ mw := mw_in (List.mem_append_right _ (List.mem_append_right _ (List.mem_append_right _ (List.mem_append_right _ (List.mem_append_left _ (List.mem_of_getElem? (i := 26) rfl)))))) rfl
theorem wd_747 : (Jvm.Cond.methodLink "PinwheelKernel$StateBuilder" (115 : Nat) ({ cls := "PinwheelKernel$StateBuilder", name := "canServe", desc := "(II)Z" } : Jvm.MethodName)) ∈ mw := mw_in (List.mem_append_right _ (List.mem_append_right _ (List.mem_append_right _ (List.mem_append_right _ (List.mem_append_left _ (List.mem_of_getElem? (i := 27) rfl)))))) rfl
theorem wd_749 : (Jvm.Cond.instanceMethod ({ cls := "PinwheelKernel$StateBuilder", name := "canServe", desc := "(II)Z" } : Jvm.MethodName)) ∈ mw := mw_in (List.mem_append_right _ (List.mem_append_right _ (List.mem_append_right _ (List.mem_append_right _ (List.mem_append_left _ (List.mem_of_getElem? (i := 29) rfl)))))) rfl
theorem wd_750 : (Jvm.Cond.code ({ cls := "PinwheelKernel$StateBuilder", name := "canServe", desc := "(II)Z" } : Jvm.MethodName) prog_5_method_11_code (4 : Nat) (Option.some Jvm.ClassFile.FieldType.boolean)) ∈ mw := mw_in (List.mem_append_right _ (List.mem_append_right _ (List.mem_append_right _ (List.mem_append_right _ (List.mem_append_left _ (List.mem_of_getElem? (i := 30) rfl)))))) rfl
theorem wd_751 : (Jvm.Cond.methodLink "PinwheelKernel$StateBuilder" (64 : Nat) ({ cls := "PinwheelKernel$StateBuilder", name := "stateAfter", desc := "(II)I" } : Jvm.MethodName)) ∈ mw := mw_in (List.mem_append_right _ (List.mem_append_right _ (List.mem_append_right _ (List.mem_append_right _ (List.mem_append_left _ (List.mem_of_getElem? (i := 31) rfl)))))) rfl
theorem wd_753 : (Jvm.Cond.instanceMethod ({ cls := "PinwheelKernel$StateBuilder", name := "stateAfter", desc := "(II)I" } : Jvm.MethodName)) ∈ mw := mw_in (List.mem_append_right _ (List.mem_append_right _ (List.mem_append_right _ (List.mem_append_right _ (List.mem_append_left _ (List.mem_of_getElem? (i := 33) rfl)))))) rfl
theorem wd_754 : (Jvm.Cond.code ({ cls := "PinwheelKernel$StateBuilder", name := "stateAfter", desc := "(II)I" } : Jvm.MethodName) prog_5_method_13_code (4 : Nat) (Option.some Jvm.ClassFile.FieldType.int)) ∈ mw := mw_in (List.mem_append_right _ (List.mem_append_right _ (List.mem_append_right _ (List.mem_append_right _ (List.mem_append_left _ (List.mem_of_getElem? (i := 34) rfl)))))) rfl
theorem wd_755 : (Jvm.Cond.methodLink "PinwheelKernel$StateBuilder" (68 : Nat) ({ cls := "PinwheelKernel$Cycle", name := "copyFrom", desc := "([III)V" } : Jvm.MethodName)) ∈ mw := mw_in (List.mem_append_right _ (List.mem_append_right _ (List.mem_append_right _ (List.mem_append_right _ (List.mem_append_left _ (List.mem_of_getElem? (i := 35) rfl)))))) rfl
theorem wd_756 : (Jvm.Cond.instanceMethod ({ cls := "PinwheelKernel$Cycle", name := "copyFrom", desc := "([III)V" } : Jvm.MethodName)) ∈ mw := mw_in (List.mem_append_right _ (List.mem_append_right _ (List.mem_append_right _ (List.mem_append_right _ (List.mem_append_left _ (List.mem_of_getElem? (i := 36) rfl)))))) rfl
theorem wd_757 : (Jvm.Cond.selects "PinwheelKernel$Cycle" ({ cls := "PinwheelKernel$Cycle", name := "copyFrom", desc := "([III)V" } : Jvm.MethodName) ({ cls := "PinwheelKernel$Cycle", name := "copyFrom", desc := "([III)V" } : Jvm.MethodName)) ∈ mw := mw_in (List.mem_append_right _ (List.mem_append_right _ (List.mem_append_right _ (List.mem_append_right _ (List.mem_append_left _ (List.mem_of_getElem? (i := 37) rfl)))))) rfl
theorem wd_758 : (Jvm.Cond.code ({ cls := "PinwheelKernel$Cycle", name := "copyFrom", desc := "([III)V" } : Jvm.MethodName) prog_3_method_8_code (4 : Nat) (Option.none : Option Jvm.ClassFile.FieldType)) ∈ mw := mw_in (List.mem_append_right _ (List.mem_append_right _ (List.mem_append_right _ (List.mem_append_right _ (List.mem_append_left _ (List.mem_of_getElem? (i := 38) rfl)))))) rfl
theorem wd_759 : (Jvm.Cond.methodLink "PinwheelKernel$Cycle" (32 : Nat) ({ cls := "java/lang/System", name := "arraycopy", desc := "(Ljava/lang/Object;ILjava/lang/Object;II)V" } : Jvm.MethodName)) ∈ mw := mw_in (List.mem_append_right _ (List.mem_append_right _ (List.mem_append_right _ (List.mem_append_right _ (List.mem_append_left _ (List.mem_of_getElem? (i := 39) rfl)))))) rfl
theorem wd_760 : (Jvm.Cond.methodLink "PinwheelKernel" (85 : Nat) ({ cls := "PinwheelKernel", name := "letWait", desc := "(I)I" } : Jvm.MethodName)) ∈ mw := mw_in (List.mem_append_right _ (List.mem_append_right _ (List.mem_append_right _ (List.mem_append_right _ (List.mem_append_left _ (List.mem_of_getElem? (i := 40) rfl)))))) rfl
theorem wd_762 : (Jvm.Cond.instanceMethod ({ cls := "PinwheelKernel", name := "letWait", desc := "(I)I" } : Jvm.MethodName)) ∈ mw := mw_in (List.mem_append_right _ (List.mem_append_right _ (List.mem_append_right _ (List.mem_append_right _ (List.mem_append_left _ (List.mem_of_getElem? (i := 42) rfl)))))) rfl
theorem wd_763 : (Jvm.Cond.code ({ cls := "PinwheelKernel", name := "letWait", desc := "(I)I" } : Jvm.MethodName) prog_1_method_16_code (2 : Nat) (Option.some Jvm.ClassFile.FieldType.int)) ∈ mw := mw_in (List.mem_append_right _ (List.mem_append_right _ (List.mem_append_right _ (List.mem_append_right _ (List.mem_append_left _ (List.mem_of_getElem? (i := 43) rfl)))))) rfl
theorem wd_764 : (Jvm.Cond.methodLink "PinwheelKernel" (157 : Nat) ({ cls := "PinwheelKernel$Cycle", name := "setBuilder", desc := "(I)V" } : Jvm.MethodName)) ∈ mw := mw_in (List.mem_append_right _ (List.mem_append_right _ (List.mem_append_right _ (List.mem_append_right _ (List.mem_append_left _ (List.mem_of_getElem? (i := 44) rfl)))))) rfl
theorem wd_765 : (Jvm.Cond.instanceMethod ({ cls := "PinwheelKernel$Cycle", name := "setBuilder", desc := "(I)V" } : Jvm.MethodName)) ∈ mw := mw_in (List.mem_append_right _ (List.mem_append_right _ (List.mem_append_right _ (List.mem_append_right _ (List.mem_append_left _ (List.mem_of_getElem? (i := 45) rfl)))))) rfl
theorem wd_766 : (Jvm.Cond.selects "PinwheelKernel$Cycle" ({ cls := "PinwheelKernel$Cycle", name := "setBuilder", desc := "(I)V" } : Jvm.MethodName) ({ cls := "PinwheelKernel$Cycle", name := "setBuilder", desc := "(I)V" } : Jvm.MethodName)) ∈ mw := mw_in (List.mem_append_right _ (List.mem_append_right _ (List.mem_append_right _ (List.mem_append_right _ (List.mem_append_left _ (List.mem_of_getElem? (i := 46) rfl)))))) rfl
theorem wd_767 : (Jvm.Cond.code ({ cls := "PinwheelKernel$Cycle", name := "setBuilder", desc := "(I)V" } : Jvm.MethodName) prog_3_method_6_code (2 : Nat) (Option.none : Option Jvm.ClassFile.FieldType)) ∈ mw := mw_in (List.mem_append_right _ (List.mem_append_right _ (List.mem_append_right _ (List.mem_append_right _ (List.mem_append_left _ (List.mem_of_getElem? (i := 47) rfl)))))) rfl
theorem wd_768 : (Jvm.Cond.methodLink "PinwheelKernelLaw" (68 : Nat) ({ cls := "PinwheelKernelLaw", name := "drop", desc := "(LPinwheelKernel;I[J)I" } : Jvm.MethodName)) ∈ mw := mw_in (List.mem_append_right _ (List.mem_append_right _ (List.mem_append_right _ (List.mem_append_right _ (List.mem_append_left _ (List.mem_of_getElem? (i := 48) rfl)))))) rfl
theorem wd_769 : (Jvm.Cond.static ({ cls := "PinwheelKernelLaw", name := "drop", desc := "(LPinwheelKernel;I[J)I" } : Jvm.MethodName)) ∈ mw := mw_in (List.mem_append_right _ (List.mem_append_right _ (List.mem_append_right _ (List.mem_append_right _ (List.mem_append_left _ (List.mem_of_getElem? (i := 49) rfl)))))) rfl
theorem wd_770 : (Jvm.Cond.codeWith ({ cls := "PinwheelKernelLaw", name := "drop", desc := "(LPinwheelKernel;I[J)I" } : Jvm.MethodName) method_4_code (4 : Nat) (Option.some Jvm.ClassFile.FieldType.int) [((0 : Nat), (9 : Nat), (12 : Nat), (23 : Nat)), ((0 : Nat), (9 : Nat), (15 : Nat), (15 : Nat))]) ∈ mw := mw_in (List.mem_append_right _ (List.mem_append_right _ (List.mem_append_right _ (List.mem_append_right _ (List.mem_append_left _ (List.mem_of_getElem? (i := 50) rfl)))))) rfl
theorem wd_771 : (Jvm.Cond.classLink "PinwheelKernelLaw" (23 : Nat) "java/util/NoSuchElementException") ∈ mw := mw_in (List.mem_append_right _ (List.mem_append_right _ (List.mem_append_right _ (List.mem_append_right _ (List.mem_append_left _ (List.mem_of_getElem? (i := 51) rfl)))))) rfl
theorem wd_772 : (Jvm.Cond.methodLink "PinwheelKernelLaw" (19 : Nat) ({ cls := "PinwheelKernel", name := "drop", desc := "(I)I" } : Jvm.MethodName)) ∈ mw := mw_in (List.mem_append_right _ (List.mem_append_right _ (List.mem_append_right _ (List.mem_append_right _ (List.mem_append_left _ (List.mem_of_getElem? (i := 52) rfl)))))) rfl
theorem wd_773 : (Jvm.Cond.instanceMethod ({ cls := "PinwheelKernel", name := "drop", desc := "(I)I" } : Jvm.MethodName)) ∈ mw := mw_in (List.mem_append_right _ (List.mem_append_right _ (List.mem_append_right _ (List.mem_append_right _ (List.mem_append_left _ (List.mem_of_getElem? (i := 53) rfl)))))) rfl
theorem wd_774 : (Jvm.Cond.selects "PinwheelKernel" ({ cls := "PinwheelKernel", name := "drop", desc := "(I)I" } : Jvm.MethodName) ({ cls := "PinwheelKernel", name := "drop", desc := "(I)I" } : Jvm.MethodName)) ∈ mw := mw_in (List.mem_append_right _ (List.mem_append_right _ (List.mem_append_right _ (List.mem_append_right _ (List.mem_append_left _ (List.mem_of_getElem? (i := 54) rfl)))))) rfl
theorem wd_775 : (Jvm.Cond.code ({ cls := "PinwheelKernel", name := "drop", desc := "(I)I" } : Jvm.MethodName) prog_1_method_3_code (3 : Nat) (Option.some Jvm.ClassFile.FieldType.int)) ∈ mw := mw_in (List.mem_append_right _ (List.mem_append_right _ (List.mem_append_right _ (List.mem_append_right _ (List.mem_append_left _ (List.mem_of_getElem? (i := 55) rfl)))))) rfl
theorem wd_776 : (Jvm.Cond.methodLink "PinwheelKernel" (88 : Nat) ({ cls := "PinwheelKernel", name := "indexOf", desc := "(I)I" } : Jvm.MethodName)) ∈ mw := mw_in (List.mem_append_right _ (List.mem_append_right _ (List.mem_append_right _ (List.mem_append_right _ (List.mem_append_left _ (List.mem_of_getElem? (i := 56) rfl)))))) rfl
theorem wd_778 : (Jvm.Cond.instanceMethod ({ cls := "PinwheelKernel", name := "indexOf", desc := "(I)I" } : Jvm.MethodName)) ∈ mw := mw_in (List.mem_append_right _ (List.mem_append_right _ (List.mem_append_right _ (List.mem_append_right _ (List.mem_append_left _ (List.mem_of_getElem? (i := 58) rfl)))))) rfl
theorem wd_779 : (Jvm.Cond.code ({ cls := "PinwheelKernel", name := "indexOf", desc := "(I)I" } : Jvm.MethodName) prog_1_method_14_code (3 : Nat) (Option.some Jvm.ClassFile.FieldType.int)) ∈ mw := mw_in (List.mem_append_right _ (List.mem_append_right _ (List.mem_append_right _ (List.mem_append_right _ (List.mem_append_left _ (List.mem_of_getElem? (i := 59) rfl)))))) rfl
theorem wd_780 : (Jvm.Cond.classLink "PinwheelKernel" (144 : Nat) "java/util/NoSuchElementException") ∈ mw := mw_in (List.mem_append_right _ (List.mem_append_right _ (List.mem_append_right _ (List.mem_append_right _ (List.mem_append_left _ (List.mem_of_getElem? (i := 60) rfl)))))) rfl
theorem wd_781 : (Jvm.Cond.instantiable "java/util/NoSuchElementException" (6 : Nat)) ∈ mw := mw_in (List.mem_append_right _ (List.mem_append_right _ (List.mem_append_right _ (List.mem_append_right _ (List.mem_append_left _ (List.mem_of_getElem? (i := 61) rfl)))))) rfl
theorem wd_783 : (Jvm.Cond.selects "java/util/NoSuchElementException" ({ cls := "java/lang/Throwable", name := "fillInStackTrace", desc := "(I)Ljava/lang/Throwable;" } : Jvm.MethodName) ({ cls := "java/lang/Throwable", name := "fillInStackTrace", desc := "(I)Ljava/lang/Throwable;" } : Jvm.MethodName)) ∈ mw := mw_in (List.mem_append_right _ (List.mem_append_right _ (List.mem_append_right _ (List.mem_append_right _ (List.mem_append_left _ (List.mem_of_getElem? (i := 63) rfl)))))) rfl
theorem wd_784 : (Jvm.Cond.lays "java/util/NoSuchElementException" "java/lang/Throwable" "cause" "Ljava/lang/Throwable;") ∈ mw := mw_in (List.mem_append_right _ (List.mem_append_right _ (List.mem_append_right _ (List.mem_append_right _ (List.mem_append_left _ (List.mem_of_getElem? (i := 64) rfl)))))) rfl
theorem wd_785 : (Jvm.Cond.lays "java/util/NoSuchElementException" "java/lang/Throwable" "stackTrace" "[Ljava/lang/StackTraceElement;") ∈ mw := mw_in (List.mem_append_right _ (List.mem_append_right _ (List.mem_append_right _ (List.mem_append_right _ (List.mem_append_left _ (List.mem_of_getElem? (i := 65) rfl)))))) rfl
theorem wd_786 : (Jvm.Cond.lays "java/util/NoSuchElementException" "java/lang/Throwable" "suppressedExceptions" "Ljava/util/List;") ∈ mw := mw_in (List.mem_append_right _ (List.mem_append_right _ (List.mem_append_right _ (List.mem_append_right _ (List.mem_append_left _ (List.mem_of_getElem? (i := 66) rfl)))))) rfl
theorem wd_787 : (Jvm.Cond.lays "java/util/NoSuchElementException" "java/lang/Throwable" "detailMessage" "Ljava/lang/String;") ∈ mw := mw_in (List.mem_append_right _ (List.mem_append_right _ (List.mem_append_right _ (List.mem_append_right _ (List.mem_append_left _ (List.mem_of_getElem? (i := 67) rfl)))))) rfl
theorem wd_788 : (Jvm.Cond.lays "java/util/NoSuchElementException" "java/lang/Throwable" "backtrace" "Ljava/lang/Object;") ∈ mw := mw_in (List.mem_append_right _ (List.mem_append_right _ (List.mem_append_right _ (List.mem_append_right _ (List.mem_append_left _ (List.mem_of_getElem? (i := 68) rfl)))))) rfl
theorem wd_789 : (Jvm.Cond.methodLink "PinwheelKernel" (146 : Nat) ({ cls := "java/util/NoSuchElementException", name := "<init>", desc := "()V" } : Jvm.MethodName)) ∈ mw := mw_in (List.mem_append_right _ (List.mem_append_right _ (List.mem_append_right _ (List.mem_append_right _ (List.mem_append_left _ (List.mem_of_getElem? (i := 69) rfl)))))) rfl
theorem wd_790 : (Jvm.Cond.instanceMethod ({ cls := "java/util/NoSuchElementException", name := "<init>", desc := "()V" } : Jvm.MethodName)) ∈ mw := mw_in (List.mem_append_right _ (List.mem_append_right _ (List.mem_append_right _ (List.mem_append_right _ (List.mem_append_left _ (List.mem_of_getElem? (i := 70) rfl)))))) rfl
theorem wd_791 : (Jvm.Cond.code ({ cls := "java/util/NoSuchElementException", name := "<init>", desc := "()V" } : Jvm.MethodName) prog_26_method_1_code (1 : Nat) (Option.none : Option Jvm.ClassFile.FieldType)) ∈ mw := mw_in (List.mem_append_right _ (List.mem_append_right _ (List.mem_append_right _ (List.mem_append_right _ (List.mem_append_left _ (List.mem_of_getElem? (i := 71) rfl)))))) rfl
theorem wd_792 : (Jvm.Cond.methodLink "java/util/NoSuchElementException" (1 : Nat) ({ cls := "java/lang/RuntimeException", name := "<init>", desc := "()V" } : Jvm.MethodName)) ∈ mw := mw_in (List.mem_append_right _ (List.mem_append_right _ (List.mem_append_right _ (List.mem_append_right _ (List.mem_append_left _ (List.mem_of_getElem? (i := 72) rfl)))))) rfl
theorem wd_793 : (Jvm.Cond.lays "java/util/NoSuchElementException" "java/lang/Throwable" "depth" "I") ∈ mw := mw_in (List.mem_append_right _ (List.mem_append_right _ (List.mem_append_right _ (List.mem_append_right _ (List.mem_append_left _ (List.mem_of_getElem? (i := 73) rfl)))))) rfl
theorem wd_794 : (Jvm.Cond.superclass "java/util/NoSuchElementException" "java/lang/RuntimeException") ∈ mw := mw_in (List.mem_append_right _ (List.mem_append_right _ (List.mem_append_right _ (List.mem_append_right _ (List.mem_append_left _ (List.mem_of_getElem? (i := 74) rfl)))))) rfl
theorem wd_795 : (Jvm.Cond.methodLink "PinwheelKernel" (91 : Nat) ({ cls := "PinwheelKernel$Clients", name := "removeAt", desc := "(I)V" } : Jvm.MethodName)) ∈ mw := mw_in (List.mem_append_right _ (List.mem_append_right _ (List.mem_append_right _ (List.mem_append_right _ (List.mem_append_left _ (List.mem_of_getElem? (i := 75) rfl)))))) rfl
theorem wd_796 : (Jvm.Cond.instanceMethod ({ cls := "PinwheelKernel$Clients", name := "removeAt", desc := "(I)V" } : Jvm.MethodName)) ∈ mw := mw_in (List.mem_append_right _ (List.mem_append_right _ (List.mem_append_right _ (List.mem_append_right _ (List.mem_append_left _ (List.mem_of_getElem? (i := 76) rfl)))))) rfl
theorem wd_797 : (Jvm.Cond.selects "PinwheelKernel$Clients" ({ cls := "PinwheelKernel$Clients", name := "removeAt", desc := "(I)V" } : Jvm.MethodName) ({ cls := "PinwheelKernel$Clients", name := "removeAt", desc := "(I)V" } : Jvm.MethodName)) ∈ mw := mw_in (List.mem_append_right _ (List.mem_append_right _ (List.mem_append_right _ (List.mem_append_right _ (List.mem_append_left _ (List.mem_of_getElem? (i := 77) rfl)))))) rfl
theorem wd_798 : (Jvm.Cond.code ({ cls := "PinwheelKernel$Clients", name := "removeAt", desc := "(I)V" } : Jvm.MethodName) prog_2_method_11_code (3 : Nat) (Option.none : Option Jvm.ClassFile.FieldType)) ∈ mw := mw_in (List.mem_append_right _ (List.mem_append_right _ (List.mem_append_right _ (List.mem_append_right _ (List.mem_append_left _ (List.mem_of_getElem? (i := 78) rfl)))))) rfl
theorem wd_799 : (Jvm.Cond.methodLink "PinwheelKernelLaw" (76 : Nat) ({ cls := "PinwheelKernelLaw", name := "wish", desc := "(LPinwheelKernel;I)I" } : Jvm.MethodName)) ∈ mw := mw_in (List.mem_append_right _ (List.mem_append_right _ (List.mem_append_right _ (List.mem_append_right _ (List.mem_append_left _ (List.mem_of_getElem? (i := 79) rfl)))))) rfl
theorem wd_800 : (Jvm.Cond.static ({ cls := "PinwheelKernelLaw", name := "wish", desc := "(LPinwheelKernel;I)I" } : Jvm.MethodName)) ∈ mw := mw_in (List.mem_append_right _ (List.mem_append_right _ (List.mem_append_right _ (List.mem_append_right _ (List.mem_append_left _ (List.mem_of_getElem? (i := 80) rfl)))))) rfl
theorem wd_801 : (Jvm.Cond.codeWith ({ cls := "PinwheelKernelLaw", name := "wish", desc := "(LPinwheelKernel;I)I" } : Jvm.MethodName) method_5_code (3 : Nat) (Option.some Jvm.ClassFile.FieldType.int) [((0 : Nat), (5 : Nat), (8 : Nat), (23 : Nat)), ((0 : Nat), (5 : Nat), (11 : Nat), (15 : Nat))]) ∈ mw := mw_in (List.mem_append_right _ (List.mem_append_right _ (List.mem_append_right _ (List.mem_append_right _ (List.mem_append_left _ (List.mem_of_getElem? (i := 81) rfl)))))) rfl
theorem wd_802 : (Jvm.Cond.methodLink "PinwheelKernelLaw" (25 : Nat) ({ cls := "PinwheelKernel", name := "wish", desc := "(I)V" } : Jvm.MethodName)) ∈ mw := mw_in (List.mem_append_right _ (List.mem_append_right _ (List.mem_append_right _ (List.mem_append_right _ (List.mem_append_left _ (List.mem_of_getElem? (i := 82) rfl)))))) rfl
theorem wd_803 : (Jvm.Cond.instanceMethod ({ cls := "PinwheelKernel", name := "wish", desc := "(I)V" } : Jvm.MethodName)) ∈ mw := mw_in (List.mem_append_right _ (List.mem_append_right _ (List.mem_append_right _ (List.mem_append_right _ (List.mem_append_left _ (List.mem_of_getElem? (i := 83) rfl)))))) rfl
theorem wd_804 : (Jvm.Cond.selects "PinwheelKernel" ({ cls := "PinwheelKernel", name := "wish", desc := "(I)V" } : Jvm.MethodName) ({ cls := "PinwheelKernel", name := "wish", desc := "(I)V" } : Jvm.MethodName)) ∈ mw := mw_in (List.mem_append_right _ (List.mem_append_right _ (List.mem_append_right _ (List.mem_append_right _ (List.mem_append_left _ (List.mem_of_getElem? (i := 84) rfl)))))) rfl
theorem wd_805 : (Jvm.Cond.code ({ cls := "PinwheelKernel", name := "wish", desc := "(I)V" } : Jvm.MethodName) prog_1_method_5_code (2 : Nat) (Option.none : Option Jvm.ClassFile.FieldType)) ∈ mw := mw_in (List.mem_append_right _ (List.mem_append_right _ (List.mem_append_right _ (List.mem_append_right _ (List.mem_append_left _ (List.mem_of_getElem? (i := 85) rfl)))))) rfl
theorem wd_806 : (Jvm.Cond.methodLink "PinwheelKernelLaw" (80 : Nat) ({ cls := "PinwheelKernelLaw", name := "waited", desc := "(LPinwheelKernel;I[J)I" } : Jvm.MethodName)) ∈ mw := mw_in (List.mem_append_right _ (List.mem_append_right _ (List.mem_append_right _ (List.mem_append_right _ (List.mem_append_left _ (List.mem_of_getElem? (i := 86) rfl)))))) rfl
theorem wd_807 : (Jvm.Cond.static ({ cls := "PinwheelKernelLaw", name := "waited", desc := "(LPinwheelKernel;I[J)I" } : Jvm.MethodName)) ∈ mw := mw_in (List.mem_append_right _ (List.mem_append_right _ (List.mem_append_right _ (List.mem_append_right _ (List.mem_append_left _ (List.mem_of_getElem? (i := 87) rfl)))))) rfl
theorem wd_808 : (Jvm.Cond.codeWith ({ cls := "PinwheelKernelLaw", name := "waited", desc := "(LPinwheelKernel;I[J)I" } : Jvm.MethodName) method_6_code (4 : Nat) (Option.some Jvm.ClassFile.FieldType.int) [((0 : Nat), (9 : Nat), (12 : Nat), (23 : Nat))]) ∈ mw := mw_in (List.mem_append_right _ (List.mem_append_right _ (List.mem_append_right _ (List.mem_append_right _ (List.mem_append_left _ (List.mem_of_getElem? (i := 88) rfl)))))) rfl
theorem wd_809 : (Jvm.Cond.methodLink "PinwheelKernelLaw" (29 : Nat) ({ cls := "PinwheelKernel", name := "waited", desc := "(I)I" } : Jvm.MethodName)) ∈ mw := mw_in (List.mem_append_right _ (List.mem_append_right _ (List.mem_append_right _ (List.mem_append_right _ (List.mem_append_left _ (List.mem_of_getElem? (i := 89) rfl)))))) rfl
theorem wd_810 : (Jvm.Cond.instanceMethod ({ cls := "PinwheelKernel", name := "waited", desc := "(I)I" } : Jvm.MethodName)) ∈ mw := mw_in (List.mem_append_right _ (List.mem_append_right _ (List.mem_append_right _ (List.mem_append_right _ (List.mem_append_left _ (List.mem_of_getElem? (i := 90) rfl)))))) rfl
theorem wd_811 : (Jvm.Cond.selects "PinwheelKernel" ({ cls := "PinwheelKernel", name := "waited", desc := "(I)I" } : Jvm.MethodName) ({ cls := "PinwheelKernel", name := "waited", desc := "(I)I" } : Jvm.MethodName)) ∈ mw := mw_in (List.mem_append_right _ (List.mem_append_right _ (List.mem_append_right _ (List.mem_append_right _ (List.mem_append_left _ (List.mem_of_getElem? (i := 91) rfl)))))) rfl
theorem wd_812 : (Jvm.Cond.code ({ cls := "PinwheelKernel", name := "waited", desc := "(I)I" } : Jvm.MethodName) prog_1_method_6_code (2 : Nat) (Option.some Jvm.ClassFile.FieldType.int)) ∈ mw := mw_in (List.mem_append_right _ (List.mem_append_right _ (List.mem_append_right _ (List.mem_append_right _ (List.mem_append_left _ (List.mem_of_getElem? (i := 92) rfl)))))) rfl
theorem wd_813 : (Jvm.Cond.methodLink "PinwheelKernel" (107 : Nat) ({ cls := "PinwheelKernel$Clients", name := "waitAt", desc := "(I)I" } : Jvm.MethodName)) ∈ mw := mw_in (List.mem_append_right _ (List.mem_append_right _ (List.mem_append_right _ (List.mem_append_right _ (List.mem_append_left _ (List.mem_of_getElem? (i := 93) rfl)))))) rfl
theorem wd_814 : (Jvm.Cond.methodLink "PinwheelKernelLaw" (83 : Nat) ({ cls := "PinwheelKernelLaw", name := "worst", desc := "(LPinwheelKernel;I[J)I" } : Jvm.MethodName)) ∈ mw := mw_in (List.mem_append_right _ (List.mem_append_right _ (List.mem_append_right _ (List.mem_append_right _ (List.mem_append_left _ (List.mem_of_getElem? (i := 94) rfl)))))) rfl
theorem wd_815 : (Jvm.Cond.static ({ cls := "PinwheelKernelLaw", name := "worst", desc := "(LPinwheelKernel;I[J)I" } : Jvm.MethodName)) ∈ mw := mw_in (List.mem_append_right _ (List.mem_append_right _ (List.mem_append_right _ (List.mem_append_right _ (List.mem_append_left _ (List.mem_of_getElem? (i := 95) rfl)))))) rfl
theorem wd_816 : (Jvm.Cond.codeWith ({ cls := "PinwheelKernelLaw", name := "worst", desc := "(LPinwheelKernel;I[J)I" } : Jvm.MethodName) method_7_code (4 : Nat) (Option.some Jvm.ClassFile.FieldType.int) [((0 : Nat), (9 : Nat), (12 : Nat), (23 : Nat))]) ∈ mw := mw_in (List.mem_append_right _ (List.mem_append_right _ (List.mem_append_right _ (List.mem_append_right _ (List.mem_append_left _ (List.mem_of_getElem? (i := 96) rfl)))))) rfl
theorem wd_817 : (Jvm.Cond.methodLink "PinwheelKernelLaw" (32 : Nat) ({ cls := "PinwheelKernel", name := "worst", desc := "(I)I" } : Jvm.MethodName)) ∈ mw := mw_in (List.mem_append_right _ (List.mem_append_right _ (List.mem_append_right _ (List.mem_append_right _ (List.mem_append_left _ (List.mem_of_getElem? (i := 97) rfl)))))) rfl
theorem wd_818 : (Jvm.Cond.instanceMethod ({ cls := "PinwheelKernel", name := "worst", desc := "(I)I" } : Jvm.MethodName)) ∈ mw := mw_in (List.mem_append_right _ (List.mem_append_right _ (List.mem_append_right _ (List.mem_append_right _ (List.mem_append_left _ (List.mem_of_getElem? (i := 98) rfl)))))) rfl
theorem wd_819 : (Jvm.Cond.selects "PinwheelKernel" ({ cls := "PinwheelKernel", name := "worst", desc := "(I)I" } : Jvm.MethodName) ({ cls := "PinwheelKernel", name := "worst", desc := "(I)I" } : Jvm.MethodName)) ∈ mw := mw_in (List.mem_append_right _ (List.mem_append_right _ (List.mem_append_right _ (List.mem_append_right _ (List.mem_append_left _ (List.mem_of_getElem? (i := 99) rfl)))))) rfl
theorem wd_820 : (Jvm.Cond.code ({ cls := "PinwheelKernel", name := "worst", desc := "(I)I" } : Jvm.MethodName) prog_1_method_7_code (2 : Nat) (Option.some Jvm.ClassFile.FieldType.int)) ∈ mw := mw_in (List.mem_append_right _ (List.mem_append_right _ (List.mem_append_right _ (List.mem_append_right _ (List.mem_append_left _ (List.mem_of_getElem? (i := 100) rfl)))))) rfl
theorem wd_821 : (Jvm.Cond.methodLink "PinwheelKernel" (110 : Nat) ({ cls := "PinwheelKernel$Clients", name := "worstAt", desc := "(I)I" } : Jvm.MethodName)) ∈ mw := mw_in (List.mem_append_right _ (List.mem_append_right _ (List.mem_append_right _ (List.mem_append_right _ (List.mem_append_left _ (List.mem_of_getElem? (i := 101) rfl)))))) rfl
theorem wd_822 : (Jvm.Cond.instanceMethod ({ cls := "PinwheelKernel$Clients", name := "worstAt", desc := "(I)I" } : Jvm.MethodName)) ∈ mw := mw_in (List.mem_append_right _ (List.mem_append_right _ (List.mem_append_right _ (List.mem_append_right _ (List.mem_append_left _ (List.mem_of_getElem? (i := 102) rfl)))))) rfl
theorem wd_823 : (Jvm.Cond.selects "PinwheelKernel$Clients" ({ cls := "PinwheelKernel$Clients", name := "worstAt", desc := "(I)I" } : Jvm.MethodName) ({ cls := "PinwheelKernel$Clients", name := "worstAt", desc := "(I)I" } : Jvm.MethodName)) ∈ mw := mw_in (List.mem_append_right _ (List.mem_append_right _ (List.mem_append_right _ (List.mem_append_right _ (List.mem_append_left _ (List.mem_of_getElem? (i := 103) rfl)))))) rfl
theorem wd_824 : (Jvm.Cond.code ({ cls := "PinwheelKernel$Clients", name := "worstAt", desc := "(I)I" } : Jvm.MethodName) prog_2_method_6_code (2 : Nat) (Option.some Jvm.ClassFile.FieldType.int)) ∈ mw := mw_in (List.mem_append_right _ (List.mem_append_right _ (List.mem_append_right _ (List.mem_append_right _ (List.mem_append_left _ (List.mem_of_getElem? (i := 104) rfl)))))) rfl
theorem wd_825 : (Jvm.Cond.methodLink "PinwheelKernelLaw" (86 : Nat) ({ cls := "PinwheelKernelLaw", name := "span", desc := "(LPinwheelKernel;I[J)I" } : Jvm.MethodName)) ∈ mw := mw_in (List.mem_append_right _ (List.mem_append_right _ (List.mem_append_right _ (List.mem_append_right _ (List.mem_append_left _ (List.mem_of_getElem? (i := 105) rfl)))))) rfl
theorem wd_826 : (Jvm.Cond.static ({ cls := "PinwheelKernelLaw", name := "span", desc := "(LPinwheelKernel;I[J)I" } : Jvm.MethodName)) ∈ mw := mw_in (List.mem_append_right _ (List.mem_append_right _ (List.mem_append_right _ (List.mem_append_right _ (List.mem_append_left _ (List.mem_of_getElem? (i := 106) rfl)))))) rfl
theorem wd_827 : (Jvm.Cond.codeWith ({ cls := "PinwheelKernelLaw", name := "span", desc := "(LPinwheelKernel;I[J)I" } : Jvm.MethodName) method_8_code (4 : Nat) (Option.some Jvm.ClassFile.FieldType.int) [((0 : Nat), (9 : Nat), (12 : Nat), (23 : Nat))]) ∈ mw := mw_in (List.mem_append_right _ (List.mem_append_right _ (List.mem_append_right _ (List.mem_append_right _ (List.mem_append_left _ (List.mem_of_getElem? (i := 107) rfl)))))) rfl
theorem wd_828 : (Jvm.Cond.methodLink "PinwheelKernelLaw" (35 : Nat) ({ cls := "PinwheelKernel", name := "span", desc := "(I)I" } : Jvm.MethodName)) ∈ mw := mw_in (List.mem_append_right _ (List.mem_append_right _ (List.mem_append_right _ (List.mem_append_right _ (List.mem_append_left _ (List.mem_of_getElem? (i := 108) rfl)))))) rfl
theorem wd_829 : (Jvm.Cond.instanceMethod ({ cls := "PinwheelKernel", name := "span", desc := "(I)I" } : Jvm.MethodName)) ∈ mw := mw_in (List.mem_append_right _ (List.mem_append_right _ (List.mem_append_right _ (List.mem_append_right _ (List.mem_append_left _ (List.mem_of_getElem? (i := 109) rfl)))))) rfl
theorem wd_830 : (Jvm.Cond.selects "PinwheelKernel" ({ cls := "PinwheelKernel", name := "span", desc := "(I)I" } : Jvm.MethodName) ({ cls := "PinwheelKernel", name := "span", desc := "(I)I" } : Jvm.MethodName)) ∈ mw := mw_in (List.mem_append_right _ (List.mem_append_right _ (List.mem_append_right _ (List.mem_append_right _ (List.mem_append_left _ (List.mem_of_getElem? (i := 110) rfl)))))) rfl
theorem wd_831 : (Jvm.Cond.code ({ cls := "PinwheelKernel", name := "span", desc := "(I)I" } : Jvm.MethodName) prog_1_method_8_code (2 : Nat) (Option.some Jvm.ClassFile.FieldType.int)) ∈ mw := mw_in (List.mem_append_right _ (List.mem_append_right _ (List.mem_append_right _ (List.mem_append_right _ (List.mem_append_left _ (List.mem_of_getElem? (i := 111) rfl)))))) rfl
theorem wd_832 : (Jvm.Cond.methodLink "PinwheelKernel" (113 : Nat) ({ cls := "PinwheelKernel$Clients", name := "spanAt", desc := "(I)I" } : Jvm.MethodName)) ∈ mw := mw_in (List.mem_append_right _ (List.mem_append_right _ (List.mem_append_right _ (List.mem_append_right _ (List.mem_append_left _ (List.mem_of_getElem? (i := 112) rfl)))))) rfl
theorem wd_833 : (Jvm.Cond.methodLink "PinwheelKernelLaw" (89 : Nat) ({ cls := "PinwheelKernelLaw", name := "cycle", desc := "(LPinwheelKernel;ZI[J)I" } : Jvm.MethodName)) ∈ mw := mw_in (List.mem_append_right _ (List.mem_append_right _ (List.mem_append_right _ (List.mem_append_right _ (List.mem_append_left _ (List.mem_of_getElem? (i := 113) rfl)))))) rfl
theorem wd_834 : (Jvm.Cond.static ({ cls := "PinwheelKernelLaw", name := "cycle", desc := "(LPinwheelKernel;ZI[J)I" } : Jvm.MethodName)) ∈ mw := mw_in (List.mem_append_right _ (List.mem_append_right _ (List.mem_append_right _ (List.mem_append_right _ (List.mem_append_left _ (List.mem_of_getElem? (i := 114) rfl)))))) rfl
theorem wd_835 : (Jvm.Cond.codeWith ({ cls := "PinwheelKernelLaw", name := "cycle", desc := "(LPinwheelKernel;ZI[J)I" } : Jvm.MethodName) method_9_code (5 : Nat) (Option.some Jvm.ClassFile.FieldType.int) [((0 : Nat), (10 : Nat), (13 : Nat), (15 : Nat)), ((0 : Nat), (10 : Nat), (17 : Nat), (42 : Nat))]) ∈ mw := mw_in (List.mem_append_right _ (List.mem_append_right _ (List.mem_append_right _ (List.mem_append_right _ (List.mem_append_left _ (List.mem_of_getElem? (i := 115) rfl)))))) rfl
theorem wd_836 : (Jvm.Cond.classLink "PinwheelKernelLaw" (42 : Nat) "java/lang/IndexOutOfBoundsException") ∈ mw := mw_in (List.mem_append_right _ (List.mem_append_right _ (List.mem_append_right _ (List.mem_append_right _ (List.mem_append_left _ (List.mem_of_getElem? (i := 116) rfl)))))) rfl
theorem wd_837 : (Jvm.Cond.methodLink "PinwheelKernelLaw" (38 : Nat) ({ cls := "PinwheelKernel", name := "cycle", desc := "(ZI)I" } : Jvm.MethodName)) ∈ mw := mw_in (List.mem_append_right _ (List.mem_append_right _ (List.mem_append_right _ (List.mem_append_right _ (List.mem_append_left _ (List.mem_of_getElem? (i := 117) rfl)))))) rfl
theorem wd_838 : (Jvm.Cond.instanceMethod ({ cls := "PinwheelKernel", name := "cycle", desc := "(ZI)I" } : Jvm.MethodName)) ∈ mw := mw_in (List.mem_append_right _ (List.mem_append_right _ (List.mem_append_right _ (List.mem_append_right _ (List.mem_append_left _ (List.mem_of_getElem? (i := 118) rfl)))))) rfl
theorem wd_839 : (Jvm.Cond.selects "PinwheelKernel" ({ cls := "PinwheelKernel", name := "cycle", desc := "(ZI)I" } : Jvm.MethodName) ({ cls := "PinwheelKernel", name := "cycle", desc := "(ZI)I" } : Jvm.MethodName)) ∈ mw := mw_in (List.mem_append_right _ (List.mem_append_right _ (List.mem_append_right _ (List.mem_append_right _ (List.mem_append_left _ (List.mem_of_getElem? (i := 119) rfl)))))) rfl
theorem wd_840 : (Jvm.Cond.code ({ cls := "PinwheelKernel", name := "cycle", desc := "(ZI)I" } : Jvm.MethodName) prog_1_method_9_code (4 : Nat) (Option.some Jvm.ClassFile.FieldType.int)) ∈ mw := mw_in (List.mem_append_right _ (List.mem_append_right _ (List.mem_append_right _ (List.mem_append_right _ (List.mem_append_left _ (List.mem_of_getElem? (i := 120) rfl)))))) rfl
theorem wd_841 : (Jvm.Cond.methodLink "PinwheelKernel" (116 : Nat) ({ cls := "PinwheelKernel$Cycle", name := "length", desc := "()I" } : Jvm.MethodName)) ∈ mw := mw_in (List.mem_append_right _ (List.mem_append_right _ (List.mem_append_right _ (List.mem_append_right _ (List.mem_append_left _ (List.mem_of_getElem? (i := 121) rfl)))))) rfl
theorem wd_842 : (Jvm.Cond.instanceMethod ({ cls := "PinwheelKernel$Cycle", name := "length", desc := "()I" } : Jvm.MethodName)) ∈ mw := mw_in (List.mem_append_right _ (List.mem_append_right _ (List.mem_append_right _ (List.mem_append_right _ (List.mem_append_left _ (List.mem_of_getElem? (i := 122) rfl)))))) rfl
theorem wd_843 : (Jvm.Cond.selects "PinwheelKernel$Cycle" ({ cls := "PinwheelKernel$Cycle", name := "length", desc := "()I" } : Jvm.MethodName) ({ cls := "PinwheelKernel$Cycle", name := "length", desc := "()I" } : Jvm.MethodName)) ∈ mw := mw_in (List.mem_append_right _ (List.mem_append_right _ (List.mem_append_right _ (List.mem_append_right _ (List.mem_append_left _ (List.mem_of_getElem? (i := 123) rfl)))))) rfl
theorem wd_844 : (Jvm.Cond.code ({ cls := "PinwheelKernel$Cycle", name := "length", desc := "()I" } : Jvm.MethodName) prog_3_method_2_code (1 : Nat) (Option.some Jvm.ClassFile.FieldType.int)) ∈ mw := mw_in (List.mem_append_right _ (List.mem_append_right _ (List.mem_append_right _ (List.mem_append_right _ (List.mem_append_left _ (List.mem_of_getElem? (i := 124) rfl)))))) rfl
theorem wd_845 : (Jvm.Cond.classLink "PinwheelKernel" (119 : Nat) "java/lang/IndexOutOfBoundsException") ∈ mw := mw_in (List.mem_append_right _ (List.mem_append_right _ (List.mem_append_right _ (List.mem_append_right _ (List.mem_append_left _ (List.mem_of_getElem? (i := 125) rfl)))))) rfl
theorem wd_846 : (Jvm.Cond.instantiable "java/lang/IndexOutOfBoundsException" (6 : Nat)) ∈ mw := mw_in (List.mem_append_right _ (List.mem_append_right _ (List.mem_append_right _ (List.mem_append_right _ (List.mem_append_left _ (List.mem_of_getElem? (i := 126) rfl)))))) rfl
theorem wd_848 : (Jvm.Cond.selects "java/lang/IndexOutOfBoundsException" ({ cls := "java/lang/Throwable", name := "fillInStackTrace", desc := "(I)Ljava/lang/Throwable;" } : Jvm.MethodName) ({ cls := "java/lang/Throwable", name := "fillInStackTrace", desc := "(I)Ljava/lang/Throwable;" } : Jvm.MethodName)) ∈ mw := mw_in (List.mem_append_right _ (List.mem_append_right _ (List.mem_append_right _ (List.mem_append_right _ (List.mem_append_left _ (List.mem_of_getElem? (i := 128) rfl)))))) rfl
theorem wd_849 : (Jvm.Cond.lays "java/lang/IndexOutOfBoundsException" "java/lang/Throwable" "cause" "Ljava/lang/Throwable;") ∈ mw := mw_in (List.mem_append_right _ (List.mem_append_right _ (List.mem_append_right _ (List.mem_append_right _ (List.mem_append_left _ (List.mem_of_getElem? (i := 129) rfl)))))) rfl
theorem wd_850 : (Jvm.Cond.lays "java/lang/IndexOutOfBoundsException" "java/lang/Throwable" "stackTrace" "[Ljava/lang/StackTraceElement;") ∈ mw := mw_in (List.mem_append_right _ (List.mem_append_right _ (List.mem_append_right _ (List.mem_append_right _ (List.mem_append_left _ (List.mem_of_getElem? (i := 130) rfl)))))) rfl
theorem wd_851 : (Jvm.Cond.lays "java/lang/IndexOutOfBoundsException" "java/lang/Throwable" "suppressedExceptions" "Ljava/util/List;") ∈ mw := mw_in (List.mem_append_right _ (List.mem_append_right _ (List.mem_append_right _ (List.mem_append_right _ (List.mem_append_left _ (List.mem_of_getElem? (i := 131) rfl)))))) rfl
theorem wd_852 : (Jvm.Cond.lays "java/lang/IndexOutOfBoundsException" "java/lang/Throwable" "detailMessage" "Ljava/lang/String;") ∈ mw := mw_in (List.mem_append_right _ (List.mem_append_right _ (List.mem_append_right _ (List.mem_append_right _ (List.mem_append_left _ (List.mem_of_getElem? (i := 132) rfl)))))) rfl
theorem wd_853 : (Jvm.Cond.lays "java/lang/IndexOutOfBoundsException" "java/lang/Throwable" "backtrace" "Ljava/lang/Object;") ∈ mw := mw_in (List.mem_append_right _ (List.mem_append_right _ (List.mem_append_right _ (List.mem_append_right _ (List.mem_append_left _ (List.mem_of_getElem? (i := 133) rfl)))))) rfl
theorem wd_854 : (Jvm.Cond.methodLink "PinwheelKernel" (121 : Nat) ({ cls := "java/lang/IndexOutOfBoundsException", name := "<init>", desc := "()V" } : Jvm.MethodName)) ∈ mw := mw_in (List.mem_append_right _ (List.mem_append_right _ (List.mem_append_right _ (List.mem_append_right _ (List.mem_append_left _ (List.mem_of_getElem? (i := 134) rfl)))))) rfl
theorem wd_855 : (Jvm.Cond.instanceMethod ({ cls := "java/lang/IndexOutOfBoundsException", name := "<init>", desc := "()V" } : Jvm.MethodName)) ∈ mw := mw_in (List.mem_append_right _ (List.mem_append_right _ (List.mem_append_right _ (List.mem_append_right _ (List.mem_append_left _ (List.mem_of_getElem? (i := 135) rfl)))))) rfl
theorem wd_856 : (Jvm.Cond.code ({ cls := "java/lang/IndexOutOfBoundsException", name := "<init>", desc := "()V" } : Jvm.MethodName) prog_14_method_1_code (1 : Nat) (Option.none : Option Jvm.ClassFile.FieldType)) ∈ mw := mw_in (List.mem_append_right _ (List.mem_append_right _ (List.mem_append_right _ (List.mem_append_right _ (List.mem_append_left _ (List.mem_of_getElem? (i := 136) rfl)))))) rfl
theorem wd_857 : (Jvm.Cond.methodLink "java/lang/IndexOutOfBoundsException" (1 : Nat) ({ cls := "java/lang/RuntimeException", name := "<init>", desc := "()V" } : Jvm.MethodName)) ∈ mw := mw_in (List.mem_append_right _ (List.mem_append_right _ (List.mem_append_right _ (List.mem_append_right _ (List.mem_append_left _ (List.mem_of_getElem? (i := 137) rfl)))))) rfl
theorem wd_858 : (Jvm.Cond.lays "java/lang/IndexOutOfBoundsException" "java/lang/Throwable" "depth" "I") ∈ mw := mw_in (List.mem_append_right _ (List.mem_append_right _ (List.mem_append_right _ (List.mem_append_right _ (List.mem_append_left _ (List.mem_of_getElem? (i := 138) rfl)))))) rfl
theorem wd_859 : (Jvm.Cond.superclass "java/lang/IndexOutOfBoundsException" "java/lang/RuntimeException") ∈ mw := mw_in (List.mem_append_right _ (List.mem_append_right _ (List.mem_append_right _ (List.mem_append_right _ (List.mem_append_left _ (List.mem_of_getElem? (i := 139) rfl)))))) rfl
theorem wd_860 : (Jvm.Cond.methodLink "PinwheelKernelLaw" (93 : Nat) ({ cls := "PinwheelKernelLaw", name := "about", desc := "(LPinwheelKernel;I[J)I" } : Jvm.MethodName)) ∈ mw := mw_in (List.mem_append_right _ (List.mem_append_right _ (List.mem_append_right _ (List.mem_append_right _ (List.mem_append_left _ (List.mem_of_getElem? (i := 140) rfl)))))) rfl
theorem wd_861 : (Jvm.Cond.static ({ cls := "PinwheelKernelLaw", name := "about", desc := "(LPinwheelKernel;I[J)I" } : Jvm.MethodName)) ∈ mw := mw_in (List.mem_append_right _ (List.mem_append_right _ (List.mem_append_right _ (List.mem_append_right _ (List.mem_append_left _ (List.mem_of_getElem? (i := 141) rfl)))))) rfl
theorem wd_862 : (Jvm.Cond.codeWith ({ cls := "PinwheelKernelLaw", name := "about", desc := "(LPinwheelKernel;I[J)I" } : Jvm.MethodName) method_10_code (4 : Nat) (Option.some Jvm.ClassFile.FieldType.int) [((0 : Nat), (9 : Nat), (12 : Nat), (13 : Nat))]) ∈ mw := mw_in (List.mem_append_right _ (List.mem_append_right _ (List.mem_append_right _ (List.mem_append_right _ (List.mem_append_left _ (List.mem_of_getElem? (i := 142) rfl)))))) rfl
theorem wd_863 : (Jvm.Cond.methodLink "PinwheelKernelLaw" (44 : Nat) ({ cls := "PinwheelKernel", name := "about", desc := "(I)I" } : Jvm.MethodName)) ∈ mw := mw_in (List.mem_append_right _ (List.mem_append_right _ (List.mem_append_right _ (List.mem_append_right _ (List.mem_append_left _ (List.mem_of_getElem? (i := 143) rfl)))))) rfl
theorem wd_864 : (Jvm.Cond.instanceMethod ({ cls := "PinwheelKernel", name := "about", desc := "(I)I" } : Jvm.MethodName)) ∈ mw := mw_in (List.mem_append_right _ (List.mem_append_right _ (List.mem_append_right _ (List.mem_append_right _ (List.mem_append_left _ (List.mem_of_getElem? (i := 144) rfl)))))) rfl
theorem wd_865 : (Jvm.Cond.selects "PinwheelKernel" ({ cls := "PinwheelKernel", name := "about", desc := "(I)I" } : Jvm.MethodName) ({ cls := "PinwheelKernel", name := "about", desc := "(I)I" } : Jvm.MethodName)) ∈ mw := mw_in (List.mem_append_right _ (List.mem_append_right _ (List.mem_append_right _ (List.mem_append_right _ (List.mem_append_left _ (List.mem_of_getElem? (i := 145) rfl)))))) rfl
theorem wd_866 : (Jvm.Cond.code ({ cls := "PinwheelKernel", name := "about", desc := "(I)I" } : Jvm.MethodName) prog_1_method_10_code (2 : Nat) (Option.some Jvm.ClassFile.FieldType.int)) ∈ mw := mw_in (List.mem_append_right _ (List.mem_append_right _ (List.mem_append_right _ (List.mem_append_right _ (List.mem_append_left _ (List.mem_of_getElem? (i := 146) rfl)))))) rfl
theorem wd_867 : (Jvm.Cond.methodLink "PinwheelKernel" (122 : Nat) ({ cls := "PinwheelKernel$Cycle", name := "builder", desc := "()I" } : Jvm.MethodName)) ∈ mw := mw_in (List.mem_append_right _ (List.mem_append_right _ (List.mem_append_right _ (List.mem_append_right _ (List.mem_append_left _ (List.mem_of_getElem? (i := 147) rfl)))))) rfl
theorem wd_868 : (Jvm.Cond.instanceMethod ({ cls := "PinwheelKernel$Cycle", name := "builder", desc := "()I" } : Jvm.MethodName)) ∈ mw := mw_in (List.mem_append_right _ (List.mem_append_right _ (List.mem_append_right _ (List.mem_append_right _ (List.mem_append_left _ (List.mem_of_getElem? (i := 148) rfl)))))) rfl
theorem wd_869 : (Jvm.Cond.selects "PinwheelKernel$Cycle" ({ cls := "PinwheelKernel$Cycle", name := "builder", desc := "()I" } : Jvm.MethodName) ({ cls := "PinwheelKernel$Cycle", name := "builder", desc := "()I" } : Jvm.MethodName)) ∈ mw := mw_in (List.mem_append_right _ (List.mem_append_right _ (List.mem_append_right _ (List.mem_append_right _ (List.mem_append_left _ (List.mem_of_getElem? (i := 149) rfl)))))) rfl
theorem wd_870 : (Jvm.Cond.code ({ cls := "PinwheelKernel$Cycle", name := "builder", desc := "()I" } : Jvm.MethodName) prog_3_method_3_code (1 : Nat) (Option.some Jvm.ClassFile.FieldType.int)) ∈ mw := mw_in (List.mem_append_right _ (List.mem_append_right _ (List.mem_append_right _ (List.mem_append_right _ (List.mem_append_left _ (List.mem_of_getElem? (i := 150) rfl)))))) rfl
theorem wd_871 : (Jvm.Cond.methodLink "PinwheelKernelLaw" (96 : Nat) ({ cls := "PinwheelKernelLaw", name := "client", desc := "(LPinwheelKernel;I[J)I" } : Jvm.MethodName)) ∈ mw := mw_in (List.mem_append_right _ (List.mem_append_right _ (List.mem_append_right _ (List.mem_append_right _ (List.mem_append_left _ (List.mem_of_getElem? (i := 151) rfl)))))) rfl
theorem wd_872 : (Jvm.Cond.static ({ cls := "PinwheelKernelLaw", name := "client", desc := "(LPinwheelKernel;I[J)I" } : Jvm.MethodName)) ∈ mw := mw_in (List.mem_append_right _ (List.mem_append_right _ (List.mem_append_right _ (List.mem_append_right _ (List.mem_append_left _ (List.mem_of_getElem? (i := 152) rfl)))))) rfl
theorem wd_873 : (Jvm.Cond.codeWith ({ cls := "PinwheelKernelLaw", name := "client", desc := "(LPinwheelKernel;I[J)I" } : Jvm.MethodName) method_11_code (4 : Nat) (Option.some Jvm.ClassFile.FieldType.int) [((0 : Nat), (9 : Nat), (12 : Nat), (42 : Nat))]) ∈ mw := mw_in (List.mem_append_right _ (List.mem_append_right _ (List.mem_append_right _ (List.mem_append_right _ (List.mem_append_left _ (List.mem_of_getElem? (i := 153) rfl)))))) rfl
theorem wd_874 : (Jvm.Cond.methodLink "PinwheelKernelLaw" (47 : Nat) ({ cls := "PinwheelKernel", name := "client", desc := "(I)I" } : Jvm.MethodName)) ∈ mw := mw_in (List.mem_append_right _ (List.mem_append_right _ (List.mem_append_right _ (List.mem_append_right _ (List.mem_append_left _ (List.mem_of_getElem? (i := 154) rfl)))))) rfl
theorem wd_875 : (Jvm.Cond.instanceMethod ({ cls := "PinwheelKernel", name := "client", desc := "(I)I" } : Jvm.MethodName)) ∈ mw := mw_in (List.mem_append_right _ (List.mem_append_right _ (List.mem_append_right _ (List.mem_append_right _ (List.mem_append_left _ (List.mem_of_getElem? (i := 155) rfl)))))) rfl
theorem wd_876 : (Jvm.Cond.selects "PinwheelKernel" ({ cls := "PinwheelKernel", name := "client", desc := "(I)I" } : Jvm.MethodName) ({ cls := "PinwheelKernel", name := "client", desc := "(I)I" } : Jvm.MethodName)) ∈ mw := mw_in (List.mem_append_right _ (List.mem_append_right _ (List.mem_append_right _ (List.mem_append_right _ (List.mem_append_left _ (List.mem_of_getElem? (i := 156) rfl)))))) rfl
theorem wd_877 : (Jvm.Cond.code ({ cls := "PinwheelKernel", name := "client", desc := "(I)I" } : Jvm.MethodName) prog_1_method_11_code (2 : Nat) (Option.some Jvm.ClassFile.FieldType.int)) ∈ mw := mw_in (List.mem_append_right _ (List.mem_append_right _ (List.mem_append_right _ (List.mem_append_right _ (List.mem_append_left _ (List.mem_of_getElem? (i := 157) rfl)))))) rfl
theorem wd_878 : (Jvm.Cond.methodLink "PinwheelKernel" (125 : Nat) ({ cls := "PinwheelKernel$Clients", name := "idAt", desc := "(I)I" } : Jvm.MethodName)) ∈ mw := mw_in (List.mem_append_right _ (List.mem_append_right _ (List.mem_append_right _ (List.mem_append_right _ (List.mem_append_left _ (List.mem_of_getElem? (i := 158) rfl)))))) rfl
theorem wd_879 : (Jvm.Cond.methodLink "PinwheelKernelLaw" (99 : Nat) ({ cls := "PinwheelKernelLaw", name := "density", desc := "(LPinwheelKernel;I[J)I" } : Jvm.MethodName)) ∈ mw := mw_in (List.mem_append_right _ (List.mem_append_right _ (List.mem_append_right _ (List.mem_append_right _ (List.mem_append_left _ (List.mem_of_getElem? (i := 159) rfl)))))) rfl
theorem wd_880 : (Jvm.Cond.static ({ cls := "PinwheelKernelLaw", name := "density", desc := "(LPinwheelKernel;I[J)I" } : Jvm.MethodName)) ∈ mw := mw_in (List.mem_append_right _ (List.mem_append_right _ (List.mem_append_right _ (List.mem_append_right _ (List.mem_append_left _ (List.mem_of_getElem? (i := 160) rfl)))))) rfl
theorem wd_881 : (Jvm.Cond.codeWith ({ cls := "PinwheelKernelLaw", name := "density", desc := "(LPinwheelKernel;I[J)I" } : Jvm.MethodName) method_12_code (4 : Nat) (Option.some Jvm.ClassFile.FieldType.int) [((0 : Nat), (8 : Nat), (11 : Nat), (13 : Nat))]) ∈ mw := mw_in (List.mem_append_right _ (List.mem_append_right _ (List.mem_append_right _ (List.mem_append_right _ (List.mem_append_left _ (List.mem_of_getElem? (i := 161) rfl)))))) rfl
theorem wd_882 : (Jvm.Cond.methodLink "PinwheelKernelLaw" (50 : Nat) ({ cls := "PinwheelKernel", name := "density", desc := "(I)J" } : Jvm.MethodName)) ∈ mw := mw_in (List.mem_append_right _ (List.mem_append_right _ (List.mem_append_right _ (List.mem_append_right _ (List.mem_append_left _ (List.mem_of_getElem? (i := 162) rfl)))))) rfl
theorem wd_883 : (Jvm.Cond.instanceMethod ({ cls := "PinwheelKernel", name := "density", desc := "(I)J" } : Jvm.MethodName)) ∈ mw := mw_in (List.mem_append_right _ (List.mem_append_right _ (List.mem_append_right _ (List.mem_append_right _ (List.mem_append_left _ (List.mem_of_getElem? (i := 163) rfl)))))) rfl
theorem wd_884 : (Jvm.Cond.selects "PinwheelKernel" ({ cls := "PinwheelKernel", name := "density", desc := "(I)J" } : Jvm.MethodName) ({ cls := "PinwheelKernel", name := "density", desc := "(I)J" } : Jvm.MethodName)) ∈ mw := mw_in (List.mem_append_right _ (List.mem_append_right _ (List.mem_append_right _ (List.mem_append_right _ (List.mem_append_left _ (List.mem_of_getElem? (i := 164) rfl)))))) rfl
theorem wd_885 : (Jvm.Cond.code ({ cls := "PinwheelKernel", name := "density", desc := "(I)J" } : Jvm.MethodName) prog_1_method_12_code (9 : Nat) (Option.some Jvm.ClassFile.FieldType.long)) ∈ mw := mw_in (List.mem_append_right _ (List.mem_append_right _ (List.mem_append_right _ (List.mem_append_right _ (List.mem_append_left _ (List.mem_of_getElem? (i := 165) rfl)))))) rfl
theorem wd_886 : (Jvm.Cond.methodLink "PinwheelKernel" (126 : Nat) ({ cls := "PinwheelKernel", name := "commonDivisor", desc := "(JJ)J" } : Jvm.MethodName)) ∈ mw := mw_in (List.mem_append_right _ (List.mem_append_right _ (List.mem_append_right _ (List.mem_append_right _ (List.mem_append_left _ (List.mem_of_getElem? (i := 166) rfl)))))) rfl
theorem wd_887 : (Jvm.Cond.static ({ cls := "PinwheelKernel", name := "commonDivisor", desc := "(JJ)J" } : Jvm.MethodName)) ∈ mw := mw_in (List.mem_append_right _ (List.mem_append_right _ (List.mem_append_right _ (List.mem_append_right _ (List.mem_append_left _ (List.mem_of_getElem? (i := 167) rfl)))))) rfl
theorem wd_888 : (Jvm.Cond.code ({ cls := "PinwheelKernel", name := "commonDivisor", desc := "(JJ)J" } : Jvm.MethodName) prog_1_method_20_code (11 : Nat) (Option.some Jvm.ClassFile.FieldType.long)) ∈ mw := mw_in (List.mem_append_right _ (List.mem_append_right _ (List.mem_append_right _ (List.mem_append_right _ (List.mem_append_left _ (List.mem_of_getElem? (i := 168) rfl)))))) rfl
theorem wd_889 : (Jvm.Cond.classLink "PinwheelKernelLaw" (55 : Nat) "PinwheelKernelModel") ∈ mw := mw_in (List.mem_append_right _ (List.mem_append_right _ (List.mem_append_right _ (List.mem_append_right _ (List.mem_append_left _ (List.mem_of_getElem? (i := 169) rfl)))))) rfl
theorem wd_890 : (Jvm.Cond.instantiable "PinwheelKernelModel" (25 : Nat)) ∈ mw := mw_in (List.mem_append_right _ (List.mem_append_right _ (List.mem_append_right _ (List.mem_append_right _ (List.mem_append_left _ (List.mem_of_getElem? (i := 170) rfl)))))) rfl
theorem wd_891 : (Jvm.Cond.methodLink "PinwheelKernelLaw" (57 : Nat) ({ cls := "PinwheelKernelModel", name := "<init>", desc := "()V" } : Jvm.MethodName)) ∈ mw := mw_in (List.mem_append_right _ (List.mem_append_right _ (List.mem_append_right _ (List.mem_append_right _ (List.mem_append_left _ (List.mem_of_getElem? (i := 171) rfl)))))) rfl
theorem wd_892 : (Jvm.Cond.instanceMethod ({ cls := "PinwheelKernelModel", name := "<init>", desc := "()V" } : Jvm.MethodName)) ∈ mw := mw_in (List.mem_append_right _ (List.mem_append_right _ (List.mem_append_right _ (List.mem_append_right _ (List.mem_append_left _ (List.mem_of_getElem? (i := 172) rfl)))))) rfl
theorem wd_893 : (Jvm.Cond.code ({ cls := "PinwheelKernelModel", name := "<init>", desc := "()V" } : Jvm.MethodName) prog_7_method_1_code (1 : Nat) (Option.none : Option Jvm.ClassFile.FieldType)) ∈ mw := mw_in (List.mem_append_right _ (List.mem_append_right _ (List.mem_append_right _ (List.mem_append_right _ (List.mem_append_left _ (List.mem_of_getElem? (i := 173) rfl)))))) rfl
theorem wd_894 : (Jvm.Cond.methodLink "PinwheelKernelModel" (1 : Nat) ({ cls := "java/lang/Object", name := "<init>", desc := "()V" } : Jvm.MethodName)) ∈ mw := mw_in (List.mem_append_right _ (List.mem_append_right _ (List.mem_append_right _ (List.mem_append_right _ (List.mem_append_left _ (List.mem_of_getElem? (i := 174) rfl)))))) rfl
theorem wd_895 : (Jvm.Cond.fieldLink "PinwheelKernelModel" (57 : Nat) "PinwheelKernelModel" "thrown" "I") ∈ mw := mw_in (List.mem_append_right _ (List.mem_append_right _ (List.mem_append_right _ (List.mem_append_right _ (List.mem_append_left _ (List.mem_of_getElem? (i := 175) rfl)))))) rfl
theorem wd_896 : (Jvm.Cond.fieldLink "PinwheelKernelModel" (60 : Nat) "PinwheelKernelModel" "present" "I") ∈ mw := mw_in (List.mem_append_right _ (List.mem_append_right _ (List.mem_append_right _ (List.mem_append_right _ (List.mem_append_left _ (List.mem_of_getElem? (i := 176) rfl)))))) rfl
theorem wd_897 : (Jvm.Cond.fieldLink "PinwheelKernelModel" (7 : Nat) "PinwheelKernelModel" "ids" "[I") ∈ mw := mw_in (List.mem_append_right _ (List.mem_append_right _ (List.mem_append_right _ (List.mem_append_right _ (List.mem_append_left _ (List.mem_of_getElem? (i := 177) rfl)))))) rfl
theorem wd_898 : (Jvm.Cond.fieldLink "PinwheelKernelModel" (13 : Nat) "PinwheelKernelModel" "spans" "[I") ∈ mw := mw_in (List.mem_append_right _ (List.mem_append_right _ (List.mem_append_right _ (List.mem_append_right _ (List.mem_append_left _ (List.mem_of_getElem? (i := 178) rfl)))))) rfl
theorem wd_899 : (Jvm.Cond.fieldLink "PinwheelKernelModel" (16 : Nat) "PinwheelKernelModel" "waits" "[I") ∈ mw := mw_in (List.mem_append_right _ (List.mem_append_right _ (List.mem_append_right _ (List.mem_append_right _ (List.mem_append_left _ (List.mem_of_getElem? (i := 179) rfl)))))) rfl
theorem wd_900 : (Jvm.Cond.fieldLink "PinwheelKernelModel" (19 : Nat) "PinwheelKernelModel" "worsts" "[I") ∈ mw := mw_in (List.mem_append_right _ (List.mem_append_right _ (List.mem_append_right _ (List.mem_append_right _ (List.mem_append_left _ (List.mem_of_getElem? (i := 180) rfl)))))) rfl
theorem wd_901 : (Jvm.Cond.fieldLink "PinwheelKernelModel" (128 : Nat) "PinwheelKernelModel" "wished" "I") ∈ mw := mw_in (List.mem_append_right _ (List.mem_append_right _ (List.mem_append_right _ (List.mem_append_right _ (List.mem_append_left _ (List.mem_of_getElem? (i := 181) rfl)))))) rfl
theorem wd_902 : (Jvm.Cond.fieldLink "PinwheelKernelModel" (134 : Nat) "PinwheelKernelModel" "builder" "I") ∈ mw := mw_in (List.mem_append_right _ (List.mem_append_right _ (List.mem_append_right _ (List.mem_append_right _ (List.mem_append_left _ (List.mem_of_getElem? (i := 182) rfl)))))) rfl
theorem wd_903 : (Jvm.Cond.fieldLink "PinwheelKernelModel" (22 : Nat) "PinwheelKernelModel" "length" "I") ∈ mw := mw_in (List.mem_append_right _ (List.mem_append_right _ (List.mem_append_right _ (List.mem_append_right _ (List.mem_append_left _ (List.mem_of_getElem? (i := 183) rfl)))))) rfl
theorem wd_904 : (Jvm.Cond.fieldLink "PinwheelKernelModel" (26 : Nat) "PinwheelKernelModel" "cycle" "[I") ∈ mw := mw_in (List.mem_append_right _ (List.mem_append_right _ (List.mem_append_right _ (List.mem_append_right _ (List.mem_append_left _ (List.mem_of_getElem? (i := 184) rfl)))))) rfl
theorem wd_905 : (Jvm.Cond.fieldLink "PinwheelKernelModel" (131 : Nat) "PinwheelKernelModel" "at" "I") ∈ mw := mw_in (List.mem_append_right _ (List.mem_append_right _ (List.mem_append_right _ (List.mem_append_right _ (List.mem_append_left _ (List.mem_of_getElem? (i := 185) rfl)))))) rfl
theorem wd_906 : (Jvm.Cond.fieldLink "PinwheelKernelModel" (143 : Nat) "PinwheelKernelModel" "vain" "I") ∈ mw := mw_in (List.mem_append_right _ (List.mem_append_right _ (List.mem_append_right _ (List.mem_append_right _ (List.mem_append_left _ (List.mem_of_getElem? (i := 186) rfl)))))) rfl
theorem wd_907 : (Jvm.Cond.fieldLink "PinwheelKernelModel" (149 : Nat) "PinwheelKernelModel" "slots" "I") ∈ mw := mw_in (List.mem_append_right _ (List.mem_append_right _ (List.mem_append_right _ (List.mem_append_right _ (List.mem_append_left _ (List.mem_of_getElem? (i := 187) rfl)))))) rfl
theorem wd_908 : (Jvm.Cond.fieldLink "PinwheelKernelModel" (29 : Nat) "PinwheelKernelModel" "coming" "I") ∈ mw := mw_in (List.mem_append_right _ (List.mem_append_right _ (List.mem_append_right _ (List.mem_append_right _ (List.mem_append_left _ (List.mem_of_getElem? (i := 188) rfl)))))) rfl
theorem wd_909 : (Jvm.Cond.fieldLink "PinwheelKernelModel" (66 : Nat) "PinwheelKernelModel" "members" "I") ∈ mw := mw_in (List.mem_append_right _ (List.mem_append_right _ (List.mem_append_right _ (List.mem_append_right _ (List.mem_append_left _ (List.mem_of_getElem? (i := 189) rfl)))))) rfl
theorem wd_910 : (Jvm.Cond.fieldLink "PinwheelKernelModel" (32 : Nat) "PinwheelKernelModel" "newIds" "[I") ∈ mw := mw_in (List.mem_append_right _ (List.mem_append_right _ (List.mem_append_right _ (List.mem_append_right _ (List.mem_append_left _ (List.mem_of_getElem? (i := 190) rfl)))))) rfl
theorem wd_911 : (Jvm.Cond.fieldLink "PinwheelKernelModel" (35 : Nat) "PinwheelKernelModel" "newSpans" "[I") ∈ mw := mw_in (List.mem_append_right _ (List.mem_append_right _ (List.mem_append_right _ (List.mem_append_right _ (List.mem_append_left _ (List.mem_of_getElem? (i := 191) rfl)))))) rfl
theorem wd_912 : (Jvm.Cond.fieldLink "PinwheelKernelModel" (77 : Nat) "PinwheelKernelModel" "newLength" "I") ∈ mw := mw_in (List.mem_append_right _ (List.mem_append_right _ (List.mem_append_right _ (List.mem_append_right _ (List.mem_append_left _ (List.mem_of_getElem? (i := 192) rfl)))))) rfl
theorem wd_913 : (Jvm.Cond.fieldLink "PinwheelKernelModel" (38 : Nat) "PinwheelKernelModel" "newCycle" "[I") ∈ mw := mw_in (List.mem_append_right _ (List.mem_append_right _ (List.mem_append_right _ (List.mem_append_right _ (List.mem_append_left _ (List.mem_of_getElem? (i := 193) rfl)))))) rfl
theorem wd_914 : (Jvm.Cond.fieldLink "PinwheelKernelModel" (63 : Nat) "PinwheelKernelModel" "many" "I") ∈ mw := mw_in (List.mem_append_right _ (List.mem_append_right _ (List.mem_append_right _ (List.mem_append_right _ (List.mem_append_left _ (List.mem_of_getElem? (i := 194) rfl)))))) rfl
theorem wd_915 : (Jvm.Cond.fieldLink "PinwheelKernelModel" (41 : Nat) "PinwheelKernelModel" "row" "[I") ∈ mw := mw_in (List.mem_append_right _ (List.mem_append_right _ (List.mem_append_right _ (List.mem_append_right _ (List.mem_append_left _ (List.mem_of_getElem? (i := 195) rfl)))))) rfl
theorem wd_916 : (Jvm.Cond.fieldLink "PinwheelKernelModel" (44 : Nat) "PinwheelKernelModel" "rounded" "[I") ∈ mw := mw_in (List.mem_append_right _ (List.mem_append_right _ (List.mem_append_right _ (List.mem_append_right _ (List.mem_append_left _ (List.mem_of_getElem? (i := 196) rfl)))))) rfl
theorem wd_917 : (Jvm.Cond.fieldLink "PinwheelKernelModel" (47 : Nat) "PinwheelKernelModel" "safe" "[Z") ∈ mw := mw_in (List.mem_append_right _ (List.mem_append_right _ (List.mem_append_right _ (List.mem_append_right _ (List.mem_append_left _ (List.mem_of_getElem? (i := 197) rfl)))))) rfl
theorem wd_918 : (Jvm.Cond.fieldLink "PinwheelKernelModel" (51 : Nat) "PinwheelKernelModel" "numbers" "[I") ∈ mw := mw_in (List.mem_append_right _ (List.mem_append_right _ (List.mem_append_right _ (List.mem_append_right _ (List.mem_append_left _ (List.mem_of_getElem? (i := 198) rfl)))))) rfl
theorem wd_919 : (Jvm.Cond.fieldLink "PinwheelKernelModel" (54 : Nat) "PinwheelKernelModel" "times" "[I") ∈ mw := mw_in (List.mem_append_right _ (List.mem_append_right _ (List.mem_append_right _ (List.mem_append_right _ (List.mem_append_left _ (List.mem_of_getElem? (i := 199) rfl)))))) rfl
theorem wd_920 : (Jvm.Cond.lays "PinwheelKernelModel" "PinwheelKernelModel" "thrown" "I") ∈ mw := mw_in (List.mem_append_right _ (List.mem_append_right _ (List.mem_append_right _ (List.mem_append_right _ (List.mem_append_left _ (List.mem_of_getElem? (i := 200) rfl)))))) rfl
theorem wd_922 : (Jvm.Cond.lays "PinwheelKernelModel" "PinwheelKernelModel" "present" "I") ∈ mw := mw_in (List.mem_append_right _ (List.mem_append_right _ (List.mem_append_right _ (List.mem_append_right _ (List.mem_append_left _ (List.mem_of_getElem? (i := 202) rfl)))))) rfl
theorem wd_924 : (Jvm.Cond.laysFinal "PinwheelKernelModel" "PinwheelKernelModel" "ids" "[I") ∈ mw := mw_in (List.mem_append_right _ (List.mem_append_right _ (List.mem_append_right _ (List.mem_append_right _ (List.mem_append_left _ (List.mem_of_getElem? (i := 204) rfl)))))) rfl
theorem wd_926 : (Jvm.Cond.laysFinal "PinwheelKernelModel" "PinwheelKernelModel" "spans" "[I") ∈ mw := mw_in (List.mem_append_right _ (List.mem_append_right _ (List.mem_append_right _ (List.mem_append_right _ (List.mem_append_left _ (List.mem_of_getElem? (i := 206) rfl)))))) rfl
theorem wd_928 : (Jvm.Cond.laysFinal "PinwheelKernelModel" "PinwheelKernelModel" "waits" "[I") ∈ mw := mw_in (List.mem_append_right _ (List.mem_append_right _ (List.mem_append_right _ (List.mem_append_right _ (List.mem_append_left _ (List.mem_of_getElem? (i := 208) rfl)))))) rfl
theorem wd_930 : (Jvm.Cond.laysFinal "PinwheelKernelModel" "PinwheelKernelModel" "worsts" "[I") ∈ mw := mw_in (List.mem_append_right _ (List.mem_append_right _ (List.mem_append_right _ (List.mem_append_right _ (List.mem_append_left _ (List.mem_of_getElem? (i := 210) rfl)))))) rfl
theorem wd_932 : (Jvm.Cond.lays "PinwheelKernelModel" "PinwheelKernelModel" "wished" "I") ∈ mw := mw_in (List.mem_append_right _ (List.mem_append_right _ (List.mem_append_right _ (List.mem_append_right _ (List.mem_append_left _ (List.mem_of_getElem? (i := 212) rfl)))))) rfl
theorem wd_934 : (Jvm.Cond.lays "PinwheelKernelModel" "PinwheelKernelModel" "builder" "I") ∈ mw := mw_in (List.mem_append_right _ (List.mem_append_right _ (List.mem_append_right _ (List.mem_append_right _ (List.mem_append_left _ (List.mem_of_getElem? (i := 214) rfl)))))) rfl
theorem wd_936 : (Jvm.Cond.lays "PinwheelKernelModel" "PinwheelKernelModel" "length" "I") ∈ mw := mw_in (List.mem_append_right _ (List.mem_append_right _ (List.mem_append_right _ (List.mem_append_right _ (List.mem_append_left _ (List.mem_of_getElem? (i := 216) rfl)))))) rfl
theorem wd_938 : (Jvm.Cond.laysFinal "PinwheelKernelModel" "PinwheelKernelModel" "cycle" "[I") ∈ mw := mw_in (List.mem_append_right _ (List.mem_append_right _ (List.mem_append_right _ (List.mem_append_right _ (List.mem_append_left _ (List.mem_of_getElem? (i := 218) rfl)))))) rfl
theorem wd_940 : (Jvm.Cond.lays "PinwheelKernelModel" "PinwheelKernelModel" "at" "I") ∈ mw := mw_in (List.mem_append_right _ (List.mem_append_right _ (List.mem_append_right _ (List.mem_append_right _ (List.mem_append_left _ (List.mem_of_getElem? (i := 220) rfl)))))) rfl
theorem wd_942 : (Jvm.Cond.lays "PinwheelKernelModel" "PinwheelKernelModel" "vain" "I") ∈ mw := mw_in (List.mem_append_right _ (List.mem_append_right _ (List.mem_append_right _ (List.mem_append_right _ (List.mem_append_left _ (List.mem_of_getElem? (i := 222) rfl)))))) rfl
theorem wd_944 : (Jvm.Cond.lays "PinwheelKernelModel" "PinwheelKernelModel" "slots" "I") ∈ mw := mw_in (List.mem_append_right _ (List.mem_append_right _ (List.mem_append_right _ (List.mem_append_right _ (List.mem_append_left _ (List.mem_of_getElem? (i := 224) rfl)))))) rfl
theorem wd_946 : (Jvm.Cond.lays "PinwheelKernelModel" "PinwheelKernelModel" "coming" "I") ∈ mw := mw_in (List.mem_append_right _ (List.mem_append_right _ (List.mem_append_right _ (List.mem_append_right _ (List.mem_append_left _ (List.mem_of_getElem? (i := 226) rfl)))))) rfl
theorem wd_948 : (Jvm.Cond.lays "PinwheelKernelModel" "PinwheelKernelModel" "members" "I") ∈ mw := mw_in (List.mem_append_right _ (List.mem_append_right _ (List.mem_append_right _ (List.mem_append_right _ (List.mem_append_left _ (List.mem_of_getElem? (i := 228) rfl)))))) rfl
theorem wd_950 : (Jvm.Cond.laysFinal "PinwheelKernelModel" "PinwheelKernelModel" "newIds" "[I") ∈ mw := mw_in (List.mem_append_right _ (List.mem_append_right _ (List.mem_append_right _ (List.mem_append_right _ (List.mem_append_left _ (List.mem_of_getElem? (i := 230) rfl)))))) rfl
theorem wd_952 : (Jvm.Cond.laysFinal "PinwheelKernelModel" "PinwheelKernelModel" "newSpans" "[I") ∈ mw := mw_in (List.mem_append_right _ (List.mem_append_right _ (List.mem_append_right _ (List.mem_append_right _ (List.mem_append_left _ (List.mem_of_getElem? (i := 232) rfl)))))) rfl
theorem wd_954 : (Jvm.Cond.lays "PinwheelKernelModel" "PinwheelKernelModel" "newLength" "I") ∈ mw := mw_in (List.mem_append_right _ (List.mem_append_right _ (List.mem_append_right _ (List.mem_append_right _ (List.mem_append_left _ (List.mem_of_getElem? (i := 234) rfl)))))) rfl
theorem wd_956 : (Jvm.Cond.laysFinal "PinwheelKernelModel" "PinwheelKernelModel" "newCycle" "[I") ∈ mw := mw_in (List.mem_append_right _ (List.mem_append_right _ (List.mem_append_right _ (List.mem_append_right _ (List.mem_append_left _ (List.mem_of_getElem? (i := 236) rfl)))))) rfl
theorem wd_958 : (Jvm.Cond.lays "PinwheelKernelModel" "PinwheelKernelModel" "many" "I") ∈ mw := mw_in (List.mem_append_right _ (List.mem_append_right _ (List.mem_append_right _ (List.mem_append_right _ (List.mem_append_left _ (List.mem_of_getElem? (i := 238) rfl)))))) rfl
theorem wd_960 : (Jvm.Cond.laysFinal "PinwheelKernelModel" "PinwheelKernelModel" "row" "[I") ∈ mw := mw_in (List.mem_append_right _ (List.mem_append_right _ (List.mem_append_right _ (List.mem_append_right _ (List.mem_append_right _ (List.mem_of_getElem? (i := 0) rfl)))))) rfl
theorem wd_962 : (Jvm.Cond.laysFinal "PinwheelKernelModel" "PinwheelKernelModel" "rounded" "[I") ∈ mw := mw_in (List.mem_append_right _ (List.mem_append_right _ (List.mem_append_right _ (List.mem_append_right _ (List.mem_append_right _ (List.mem_of_getElem? (i := 2) rfl)))))) rfl
theorem wd_964 : (Jvm.Cond.laysFinal "PinwheelKernelModel" "PinwheelKernelModel" "safe" "[Z") ∈ mw := mw_in (List.mem_append_right _ (List.mem_append_right _ (List.mem_append_right _ (List.mem_append_right _ (List.mem_append_right _ (List.mem_of_getElem? (i := 4) rfl)))))) rfl
theorem wd_966 : (Jvm.Cond.laysFinal "PinwheelKernelModel" "PinwheelKernelModel" "numbers" "[I") ∈ mw := mw_in (List.mem_append_right _ (List.mem_append_right _ (List.mem_append_right _ (List.mem_append_right _ (List.mem_append_right _ (List.mem_of_getElem? (i := 6) rfl)))))) rfl
theorem wd_968 : (Jvm.Cond.laysFinal "PinwheelKernelModel" "PinwheelKernelModel" "times" "[I") ∈ mw := mw_in (List.mem_append_right _ (List.mem_append_right _ (List.mem_append_right _ (List.mem_append_right _ (List.mem_append_right _ (List.mem_of_getElem? (i := 8) rfl)))))) rfl
theorem wd_970 : (Jvm.Cond.superclass "PinwheelKernelModel" "java/lang/Object") ∈ mw := mw_in (List.mem_append_right _ (List.mem_append_right _ (List.mem_append_right _ (List.mem_append_right _ (List.mem_append_right _ (List.mem_of_getElem? (i := 10) rfl)))))) rfl
theorem wd_971 : (Jvm.Cond.arrayClass Jvm.ClassFile.FieldType.boolean) ∈ mw := mw_in (List.mem_append_right _ (List.mem_append_right _ (List.mem_append_right _ (List.mem_append_right _ (List.mem_append_right _ (List.mem_of_getElem? (i := 11) rfl)))))) rfl
theorem wd_972 : (Jvm.Cond.methodLink "PinwheelKernelLaw" (64 : Nat) ({ cls := "PinwheelKernelModel", name := "thrown", desc := "()I" } : Jvm.MethodName)) ∈ mw := mw_in (List.mem_append_right _ (List.mem_append_right _ (List.mem_append_right _ (List.mem_append_right _ (List.mem_append_right _ (List.mem_of_getElem? (i := 12) rfl)))))) rfl
theorem wd_973 : (Jvm.Cond.instanceMethod ({ cls := "PinwheelKernelModel", name := "thrown", desc := "()I" } : Jvm.MethodName)) ∈ mw := mw_in (List.mem_append_right _ (List.mem_append_right _ (List.mem_append_right _ (List.mem_append_right _ (List.mem_append_right _ (List.mem_of_getElem? (i := 13) rfl)))))) rfl
theorem wd_974 : (Jvm.Cond.selects "PinwheelKernelModel" ({ cls := "PinwheelKernelModel", name := "thrown", desc := "()I" } : Jvm.MethodName) ({ cls := "PinwheelKernelModel", name := "thrown", desc := "()I" } : Jvm.MethodName)) ∈ mw := mw_in (List.mem_append_right _ (List.mem_append_right _ (List.mem_append_right _ (List.mem_append_right _ (List.mem_append_right _ (List.mem_of_getElem? (i := 14) rfl)))))) rfl
theorem wd_975 : (Jvm.Cond.code ({ cls := "PinwheelKernelModel", name := "thrown", desc := "()I" } : Jvm.MethodName) prog_7_method_2_code (1 : Nat) (Option.some Jvm.ClassFile.FieldType.int)) ∈ mw := mw_in (List.mem_append_right _ (List.mem_append_right _ (List.mem_append_right _ (List.mem_append_right _ (List.mem_append_right _ (List.mem_of_getElem? (i := 15) rfl)))))) rfl
theorem wd_976 : (Jvm.Cond.methodLink "PinwheelKernelLaw" (63 : Nat) ({ cls := "PinwheelKernelModel", name := "ask", desc := "(II)I" } : Jvm.MethodName)) ∈ mw := mw_in (List.mem_append_right _ (List.mem_append_right _ (List.mem_append_right _ (List.mem_append_right _ (List.mem_append_right _ (List.mem_of_getElem? (i := 16) rfl)))))) rfl
theorem wd_977 : (Jvm.Cond.instanceMethod ({ cls := "PinwheelKernelModel", name := "ask", desc := "(II)I" } : Jvm.MethodName)) ∈ mw := mw_in (List.mem_append_right _ (List.mem_append_right _ (List.mem_append_right _ (List.mem_append_right _ (List.mem_append_right _ (List.mem_of_getElem? (i := 17) rfl)))))) rfl
theorem wd_978 : (Jvm.Cond.selects "PinwheelKernelModel" ({ cls := "PinwheelKernelModel", name := "ask", desc := "(II)I" } : Jvm.MethodName) ({ cls := "PinwheelKernelModel", name := "ask", desc := "(II)I" } : Jvm.MethodName)) ∈ mw := mw_in (List.mem_append_right _ (List.mem_append_right _ (List.mem_append_right _ (List.mem_append_right _ (List.mem_append_right _ (List.mem_of_getElem? (i := 18) rfl)))))) rfl
theorem wd_979 : (Jvm.Cond.code ({ cls := "PinwheelKernelModel", name := "ask", desc := "(II)I" } : Jvm.MethodName) prog_7_method_19_code (6 : Nat) (Option.some Jvm.ClassFile.FieldType.int)) ∈ mw := mw_in (List.mem_append_right _ (List.mem_append_right _ (List.mem_append_right _ (List.mem_append_right _ (List.mem_append_right _ (List.mem_of_getElem? (i := 19) rfl)))))) rfl
theorem wd_980 : (Jvm.Cond.methodLink "PinwheelKernelModel" (111 : Nat) ({ cls := "PinwheelKernelModel", name := "in", desc := "(III)Z" } : Jvm.MethodName)) ∈ mw := mw_in (List.mem_append_right _ (List.mem_append_right _ (List.mem_append_right _ (List.mem_append_right _ (List.mem_append_right _ (List.mem_of_getElem? (i := 20) rfl)))))) rfl
theorem wd_981 : (Jvm.Cond.static ({ cls := "PinwheelKernelModel", name := "in", desc := "(III)Z" } : Jvm.MethodName)) ∈ mw := mw_in (List.mem_append_right _ (List.mem_append_right _ (List.mem_append_right _ (List.mem_append_right _ (List.mem_append_right _ (List.mem_of_getElem? (i := 21) rfl)))))) rfl
theorem wd_982 : (Jvm.Cond.code ({ cls := "PinwheelKernelModel", name := "in", desc := "(III)Z" } : Jvm.MethodName) prog_7_method_4_code (3 : Nat) (Option.some Jvm.ClassFile.FieldType.boolean)) ∈ mw := mw_in (List.mem_append_right _ (List.mem_append_right _ (List.mem_append_right _ (List.mem_append_right _ (List.mem_append_right _ (List.mem_of_getElem? (i := 22) rfl)))))) rfl
theorem wd_983 : (Jvm.Cond.methodLink "PinwheelKernelModel" (115 : Nat) ({ cls := "PinwheelKernelModel", name := "find", desc := "(I)I" } : Jvm.MethodName)) ∈ mw := mw_in (List.mem_append_right _ (List.mem_append_right _ (List.mem_append_right _ (List.mem_append_right _ (List.mem_append_right _ (List.mem_of_getElem? (i := 23) rfl)))))) rfl
theorem wd_985 : (Jvm.Cond.instanceMethod ({ cls := "PinwheelKernelModel", name := "find", desc := "(I)I" } : Jvm.MethodName)) ∈ mw := mw_in (List.mem_append_right _ (List.mem_append_right _ (List.mem_append_right _ (List.mem_append_right _ (List.mem_append_right _ (List.mem_of_getElem? (i := 25) rfl)))))) rfl
theorem wd_986 : (Jvm.Cond.code ({ cls := "PinwheelKernelModel", name := "find", desc := "(I)I" } : Jvm.MethodName) prog_7_method_5_code (4 : Nat) (Option.some Jvm.ClassFile.FieldType.int)) ∈ mw := mw_in (List.mem_append_right _ (List.mem_append_right _ (List.mem_append_right _ (List.mem_append_right _ (List.mem_append_right _ (List.mem_of_getElem? (i := 26) rfl)))))) rfl
theorem wd_987 : (Jvm.Cond.methodLink "PinwheelKernelModel" (118 : Nat) ({ cls := "PinwheelKernelModel", name := "refuse", desc := "(ZZZ)Z" } : Jvm.MethodName)) ∈ mw := mw_in (List.mem_append_right _ (List.mem_append_right _ (List.mem_append_right _ (List.mem_append_right _ (List.mem_append_right _ (List.mem_of_getElem? (i := 27) rfl)))))) rfl
theorem wd_989 : (Jvm.Cond.instanceMethod ({ cls := "PinwheelKernelModel", name := "refuse", desc := "(ZZZ)Z" } : Jvm.MethodName)) ∈ mw := mw_in (List.mem_append_right _ (List.mem_append_right _ (List.mem_append_right _ (List.mem_append_right _ (List.mem_append_right _ (List.mem_of_getElem? (i := 29) rfl)))))) rfl
theorem wd_990 : (Jvm.Cond.code ({ cls := "PinwheelKernelModel", name := "refuse", desc := "(ZZZ)Z" } : Jvm.MethodName) prog_7_method_3_code (4 : Nat) (Option.some Jvm.ClassFile.FieldType.boolean)) ∈ mw := mw_in (List.mem_append_right _ (List.mem_append_right _ (List.mem_append_right _ (List.mem_append_right _ (List.mem_append_right _ (List.mem_of_getElem? (i := 30) rfl)))))) rfl
theorem wd_991 : (Jvm.Cond.methodLink "PinwheelKernelModel" (122 : Nat) ({ cls := "PinwheelKernelModel", name := "copySet", desc := "(I)V" } : Jvm.MethodName)) ∈ mw := mw_in (List.mem_append_right _ (List.mem_append_right _ (List.mem_append_right _ (List.mem_append_right _ (List.mem_append_right _ (List.mem_of_getElem? (i := 31) rfl)))))) rfl
theorem wd_993 : (Jvm.Cond.instanceMethod ({ cls := "PinwheelKernelModel", name := "copySet", desc := "(I)V" } : Jvm.MethodName)) ∈ mw := mw_in (List.mem_append_right _ (List.mem_append_right _ (List.mem_append_right _ (List.mem_append_right _ (List.mem_append_right _ (List.mem_of_getElem? (i := 33) rfl)))))) rfl
theorem wd_994 : (Jvm.Cond.code ({ cls := "PinwheelKernelModel", name := "copySet", desc := "(I)V" } : Jvm.MethodName) prog_7_method_18_code (3 : Nat) (Option.none : Option Jvm.ClassFile.FieldType)) ∈ mw := mw_in (List.mem_append_right _ (List.mem_append_right _ (List.mem_append_right _ (List.mem_append_right _ (List.mem_append_right _ (List.mem_of_getElem? (i := 34) rfl)))))) rfl
theorem wd_995 : (Jvm.Cond.methodLink "PinwheelKernelModel" (125 : Nat) ({ cls := "PinwheelKernelModel", name := "build", desc := "()I" } : Jvm.MethodName)) ∈ mw := mw_in (List.mem_append_right _ (List.mem_append_right _ (List.mem_append_right _ (List.mem_append_right _ (List.mem_append_right _ (List.mem_of_getElem? (i := 35) rfl)))))) rfl
theorem wd_997 : (Jvm.Cond.instanceMethod ({ cls := "PinwheelKernelModel", name := "build", desc := "()I" } : Jvm.MethodName)) ∈ mw := mw_in (List.mem_append_right _ (List.mem_append_right _ (List.mem_append_right _ (List.mem_append_right _ (List.mem_append_right _ (List.mem_of_getElem? (i := 37) rfl)))))) rfl
theorem wd_998 : (Jvm.Cond.code ({ cls := "PinwheelKernelModel", name := "build", desc := "()I" } : Jvm.MethodName) prog_7_method_17_code (1 : Nat) (Option.some Jvm.ClassFile.FieldType.int)) ∈ mw := mw_in (List.mem_append_right _ (List.mem_append_right _ (List.mem_append_right _ (List.mem_append_right _ (List.mem_append_right _ (List.mem_of_getElem? (i := 38) rfl)))))) rfl
theorem wd_999 : (Jvm.Cond.methodLink "PinwheelKernelModel" (84 : Nat) ({ cls := "PinwheelKernelModel", name := "lay", desc := "(I)Z" } : Jvm.MethodName)) ∈ mw := mw_in (List.mem_append_right _ (List.mem_append_right _ (List.mem_append_right _ (List.mem_append_right _ (List.mem_append_right _ (List.mem_of_getElem? (i := 39) rfl)))))) rfl
theorem wd_1001 : (Jvm.Cond.instanceMethod ({ cls := "PinwheelKernelModel", name := "lay", desc := "(I)Z" } : Jvm.MethodName)) ∈ mw := mw_in (List.mem_append_right _ (List.mem_append_right _ (List.mem_append_right _ (List.mem_append_right _ (List.mem_append_right _ (List.mem_of_getElem? (i := 41) rfl)))))) rfl
theorem wd_1002 : (Jvm.Cond.code ({ cls := "PinwheelKernelModel", name := "lay", desc := "(I)Z" } : Jvm.MethodName) prog_7_method_9_code (6 : Nat) (Option.some Jvm.ClassFile.FieldType.boolean)) ∈ mw := mw_in (List.mem_append_right _ (List.mem_append_right _ (List.mem_append_right _ (List.mem_append_right _ (List.mem_append_right _ (List.mem_of_getElem? (i := 42) rfl)))))) rfl
theorem wd_1003 : (Jvm.Cond.methodLink "PinwheelKernelModel" (73 : Nat) ({ cls := "PinwheelKernelModel", name := "arrange", desc := "(I)V" } : Jvm.MethodName)) ∈ mw := mw_in (List.mem_append_right _ (List.mem_append_right _ (List.mem_append_right _ (List.mem_append_right _ (List.mem_append_right _ (List.mem_of_getElem? (i := 43) rfl)))))) rfl
theorem wd_1005 : (Jvm.Cond.instanceMethod ({ cls := "PinwheelKernelModel", name := "arrange", desc := "(I)V" } : Jvm.MethodName)) ∈ mw := mw_in (List.mem_append_right _ (List.mem_append_right _ (List.mem_append_right _ (List.mem_append_right _ (List.mem_append_right _ (List.mem_of_getElem? (i := 45) rfl)))))) rfl
theorem wd_1006 : (Jvm.Cond.code ({ cls := "PinwheelKernelModel", name := "arrange", desc := "(I)V" } : Jvm.MethodName) prog_7_method_7_code (5 : Nat) (Option.none : Option Jvm.ClassFile.FieldType)) ∈ mw := mw_in (List.mem_append_right _ (List.mem_append_right _ (List.mem_append_right _ (List.mem_append_right _ (List.mem_append_right _ (List.mem_of_getElem? (i := 46) rfl)))))) rfl
theorem wd_1007 : (Jvm.Cond.methodLink "PinwheelKernelModel" (69 : Nat) ({ cls := "PinwheelKernelModel", name := "round", desc := "(II)I" } : Jvm.MethodName)) ∈ mw := mw_in (List.mem_append_right _ (List.mem_append_right _ (List.mem_append_right _ (List.mem_append_right _ (List.mem_append_right _ (List.mem_of_getElem? (i := 47) rfl)))))) rfl
theorem wd_1008 : (Jvm.Cond.static ({ cls := "PinwheelKernelModel", name := "round", desc := "(II)I" } : Jvm.MethodName)) ∈ mw := mw_in (List.mem_append_right _ (List.mem_append_right _ (List.mem_append_right _ (List.mem_append_right _ (List.mem_append_right _ (List.mem_of_getElem? (i := 48) rfl)))))) rfl
theorem wd_1009 : (Jvm.Cond.code ({ cls := "PinwheelKernelModel", name := "round", desc := "(II)I" } : Jvm.MethodName) prog_7_method_6_code (3 : Nat) (Option.some Jvm.ClassFile.FieldType.int)) ∈ mw := mw_in (List.mem_append_right _ (List.mem_append_right _ (List.mem_append_right _ (List.mem_append_right _ (List.mem_append_right _ (List.mem_of_getElem? (i := 49) rfl)))))) rfl
theorem wd_1010 : (Jvm.Cond.methodLink "PinwheelKernelModel" (104 : Nat) ({ cls := "PinwheelKernelModel", name := "byBases", desc := "()Z" } : Jvm.MethodName)) ∈ mw := mw_in (List.mem_append_right _ (List.mem_append_right _ (List.mem_append_right _ (List.mem_append_right _ (List.mem_append_right _ (List.mem_of_getElem? (i := 50) rfl)))))) rfl
theorem wd_1012 : (Jvm.Cond.instanceMethod ({ cls := "PinwheelKernelModel", name := "byBases", desc := "()Z" } : Jvm.MethodName)) ∈ mw := mw_in (List.mem_append_right _ (List.mem_append_right _ (List.mem_append_right _ (List.mem_append_right _ (List.mem_append_right _ (List.mem_of_getElem? (i := 52) rfl)))))) rfl
theorem wd_1013 : (Jvm.Cond.code ({ cls := "PinwheelKernelModel", name := "byBases", desc := "()Z" } : Jvm.MethodName) prog_7_method_10_code (3 : Nat) (Option.some Jvm.ClassFile.FieldType.boolean)) ∈ mw := mw_in (List.mem_append_right _ (List.mem_append_right _ (List.mem_append_right _ (List.mem_append_right _ (List.mem_append_right _ (List.mem_of_getElem? (i := 53) rfl)))))) rfl
theorem wd_1014 : (Jvm.Cond.methodLink "PinwheelKernelModel" (80 : Nat) ({ cls := "PinwheelKernelModel", name := "leastSpan", desc := "()I" } : Jvm.MethodName)) ∈ mw := mw_in (List.mem_append_right _ (List.mem_append_right _ (List.mem_append_right _ (List.mem_append_right _ (List.mem_append_right _ (List.mem_of_getElem? (i := 54) rfl)))))) rfl
theorem wd_1016 : (Jvm.Cond.instanceMethod ({ cls := "PinwheelKernelModel", name := "leastSpan", desc := "()I" } : Jvm.MethodName)) ∈ mw := mw_in (List.mem_append_right _ (List.mem_append_right _ (List.mem_append_right _ (List.mem_append_right _ (List.mem_append_right _ (List.mem_of_getElem? (i := 56) rfl)))))) rfl
theorem wd_1017 : (Jvm.Cond.code ({ cls := "PinwheelKernelModel", name := "leastSpan", desc := "()I" } : Jvm.MethodName) prog_7_method_8_code (3 : Nat) (Option.some Jvm.ClassFile.FieldType.int)) ∈ mw := mw_in (List.mem_append_right _ (List.mem_append_right _ (List.mem_append_right _ (List.mem_append_right _ (List.mem_append_right _ (List.mem_of_getElem? (i := 57) rfl)))))) rfl
theorem wd_1018 : (Jvm.Cond.methodLink "PinwheelKernelModel" (108 : Nat) ({ cls := "PinwheelKernelModel", name := "byStates", desc := "()Z" } : Jvm.MethodName)) ∈ mw := mw_in (List.mem_append_right _ (List.mem_append_right _ (List.mem_append_right _ (List.mem_append_right _ (List.mem_append_right _ (List.mem_of_getElem? (i := 58) rfl)))))) rfl
theorem wd_1020 : (Jvm.Cond.instanceMethod ({ cls := "PinwheelKernelModel", name := "byStates", desc := "()Z" } : Jvm.MethodName)) ∈ mw := mw_in (List.mem_append_right _ (List.mem_append_right _ (List.mem_append_right _ (List.mem_append_right _ (List.mem_append_right _ (List.mem_of_getElem? (i := 60) rfl)))))) rfl
theorem wd_1021 : (Jvm.Cond.code ({ cls := "PinwheelKernelModel", name := "byStates", desc := "()Z" } : Jvm.MethodName) prog_7_method_16_code (6 : Nat) (Option.some Jvm.ClassFile.FieldType.boolean)) ∈ mw := mw_in (List.mem_append_right _ (List.mem_append_right _ (List.mem_append_right _ (List.mem_append_right _ (List.mem_append_right _ (List.mem_of_getElem? (i := 61) rfl)))))) rfl
theorem wd_1022 : (Jvm.Cond.methodLink "PinwheelKernelModel" (98 : Nat) ({ cls := "PinwheelKernelModel", name := "product", desc := "()I" } : Jvm.MethodName)) ∈ mw := mw_in (List.mem_append_right _ (List.mem_append_right _ (List.mem_append_right _ (List.mem_append_right _ (List.mem_append_right _ (List.mem_of_getElem? (i := 62) rfl)))))) rfl
theorem wd_1024 : (Jvm.Cond.instanceMethod ({ cls := "PinwheelKernelModel", name := "product", desc := "()I" } : Jvm.MethodName)) ∈ mw := mw_in (List.mem_append_right _ (List.mem_append_right _ (List.mem_append_right _ (List.mem_append_right _ (List.mem_append_right _ (List.mem_of_getElem? (i := 64) rfl)))))) rfl
theorem wd_1025 : (Jvm.Cond.code ({ cls := "PinwheelKernelModel", name := "product", desc := "()I" } : Jvm.MethodName) prog_7_method_11_code (3 : Nat) (Option.some Jvm.ClassFile.FieldType.int)) ∈ mw := mw_in (List.mem_append_right _ (List.mem_append_right _ (List.mem_append_right _ (List.mem_append_right _ (List.mem_append_right _ (List.mem_of_getElem? (i := 65) rfl)))))) rfl
theorem wd_1026 : (Jvm.Cond.methodLink "PinwheelKernelModel" (101 : Nat) ({ cls := "PinwheelKernelModel", name := "isSafe", desc := "(I)Z" } : Jvm.MethodName)) ∈ mw := mw_in (List.mem_append_right _ (List.mem_append_right _ (List.mem_append_right _ (List.mem_append_right _ (List.mem_append_right _ (List.mem_of_getElem? (i := 66) rfl)))))) rfl
theorem wd_1028 : (Jvm.Cond.instanceMethod ({ cls := "PinwheelKernelModel", name := "isSafe", desc := "(I)Z" } : Jvm.MethodName)) ∈ mw := mw_in (List.mem_append_right _ (List.mem_append_right _ (List.mem_append_right _ (List.mem_append_right _ (List.mem_append_right _ (List.mem_of_getElem? (i := 68) rfl)))))) rfl
theorem wd_1029 : (Jvm.Cond.code ({ cls := "PinwheelKernelModel", name := "isSafe", desc := "(I)Z" } : Jvm.MethodName) prog_7_method_15_code (4 : Nat) (Option.some Jvm.ClassFile.FieldType.boolean)) ∈ mw := mw_in (List.mem_append_right _ (List.mem_append_right _ (List.mem_append_right _ (List.mem_append_right _ (List.mem_append_right _ (List.mem_of_getElem? (i := 69) rfl)))))) rfl
theorem wd_1030 : (Jvm.Cond.methodLink "PinwheelKernelModel" (94 : Nat) ({ cls := "PinwheelKernelModel", name := "good", desc := "(I)I" } : Jvm.MethodName)) ∈ mw := mw_in (List.mem_append_right _ (List.mem_append_right _ (List.mem_append_right _ (List.mem_append_right _ (List.mem_append_right _ (List.mem_of_getElem? (i := 70) rfl)))))) rfl
theorem wd_1032 : (Jvm.Cond.instanceMethod ({ cls := "PinwheelKernelModel", name := "good", desc := "(I)I" } : Jvm.MethodName)) ∈ mw := mw_in (List.mem_append_right _ (List.mem_append_right _ (List.mem_append_right _ (List.mem_append_right _ (List.mem_append_right _ (List.mem_of_getElem? (i := 72) rfl)))))) rfl
theorem wd_1033 : (Jvm.Cond.code ({ cls := "PinwheelKernelModel", name := "good", desc := "(I)I" } : Jvm.MethodName) prog_7_method_14_code (4 : Nat) (Option.some Jvm.ClassFile.FieldType.int)) ∈ mw := mw_in (List.mem_append_right _ (List.mem_append_right _ (List.mem_append_right _ (List.mem_append_right _ (List.mem_append_right _ (List.mem_of_getElem? (i := 73) rfl)))))) rfl
theorem wd_1034 : (Jvm.Cond.methodLink "PinwheelKernelModel" (91 : Nat) ({ cls := "PinwheelKernelModel", name := "after", desc := "(II)I" } : Jvm.MethodName)) ∈ mw := mw_in (List.mem_append_right _ (List.mem_append_right _ (List.mem_append_right _ (List.mem_append_right _ (List.mem_append_right _ (List.mem_of_getElem? (i := 74) rfl)))))) rfl
theorem wd_1036 : (Jvm.Cond.instanceMethod ({ cls := "PinwheelKernelModel", name := "after", desc := "(II)I" } : Jvm.MethodName)) ∈ mw := mw_in (List.mem_append_right _ (List.mem_append_right _ (List.mem_append_right _ (List.mem_append_right _ (List.mem_append_right _ (List.mem_of_getElem? (i := 76) rfl)))))) rfl
theorem wd_1037 : (Jvm.Cond.code ({ cls := "PinwheelKernelModel", name := "after", desc := "(II)I" } : Jvm.MethodName) prog_7_method_13_code (7 : Nat) (Option.some Jvm.ClassFile.FieldType.int)) ∈ mw := mw_in (List.mem_append_right _ (List.mem_append_right _ (List.mem_append_right _ (List.mem_append_right _ (List.mem_append_right _ (List.mem_of_getElem? (i := 77) rfl)))))) rfl
theorem wd_1038 : (Jvm.Cond.methodLink "PinwheelKernelModel" (88 : Nat) ({ cls := "PinwheelKernelModel", name := "open", desc := "(I)V" } : Jvm.MethodName)) ∈ mw := mw_in (List.mem_append_right _ (List.mem_append_right _ (List.mem_append_right _ (List.mem_append_right _ (List.mem_append_right _ (List.mem_of_getElem? (i := 78) rfl)))))) rfl
theorem wd_1040 : (Jvm.Cond.instanceMethod ({ cls := "PinwheelKernelModel", name := "open", desc := "(I)V" } : Jvm.MethodName)) ∈ mw := mw_in (List.mem_append_right _ (List.mem_append_right _ (List.mem_append_right _ (List.mem_append_right _ (List.mem_append_right _ (List.mem_of_getElem? (i := 80) rfl)))))) rfl
theorem wd_1041 : (Jvm.Cond.code ({ cls := "PinwheelKernelModel", name := "open", desc := "(I)V" } : Jvm.MethodName) prog_7_method_12_code (4 : Nat) (Option.none : Option Jvm.ClassFile.FieldType)) ∈ mw := mw_in (List.mem_append_right _ (List.mem_append_right _ (List.mem_append_right _ (List.mem_append_right _ (List.mem_append_right _ (List.mem_of_getElem? (i := 81) rfl)))))) rfl
theorem wd_1042 : (Jvm.Cond.methodLink "PinwheelKernelLaw" (71 : Nat) ({ cls := "PinwheelKernelModel", name := "drop", desc := "(I)I" } : Jvm.MethodName)) ∈ mw := mw_in (List.mem_append_right _ (List.mem_append_right _ (List.mem_append_right _ (List.mem_append_right _ (List.mem_append_right _ (List.mem_of_getElem? (i := 82) rfl)))))) rfl
theorem wd_1043 : (Jvm.Cond.instanceMethod ({ cls := "PinwheelKernelModel", name := "drop", desc := "(I)I" } : Jvm.MethodName)) ∈ mw := mw_in (List.mem_append_right _ (List.mem_append_right _ (List.mem_append_right _ (List.mem_append_right _ (List.mem_append_right _ (List.mem_of_getElem? (i := 83) rfl)))))) rfl
theorem wd_1044 : (Jvm.Cond.selects "PinwheelKernelModel" ({ cls := "PinwheelKernelModel", name := "drop", desc := "(I)I" } : Jvm.MethodName) ({ cls := "PinwheelKernelModel", name := "drop", desc := "(I)I" } : Jvm.MethodName)) ∈ mw := mw_in (List.mem_append_right _ (List.mem_append_right _ (List.mem_append_right _ (List.mem_append_right _ (List.mem_append_right _ (List.mem_of_getElem? (i := 84) rfl)))))) rfl
theorem wd_1045 : (Jvm.Cond.code ({ cls := "PinwheelKernelModel", name := "drop", desc := "(I)I" } : Jvm.MethodName) prog_7_method_20_code (2 : Nat) (Option.some Jvm.ClassFile.FieldType.int)) ∈ mw := mw_in (List.mem_append_right _ (List.mem_append_right _ (List.mem_append_right _ (List.mem_append_right _ (List.mem_append_right _ (List.mem_of_getElem? (i := 85) rfl)))))) rfl
theorem wd_1046 : (Jvm.Cond.methodLink "PinwheelKernelLaw" (75 : Nat) ({ cls := "PinwheelKernelModel", name := "slot", desc := "()I" } : Jvm.MethodName)) ∈ mw := mw_in (List.mem_append_right _ (List.mem_append_right _ (List.mem_append_right _ (List.mem_append_right _ (List.mem_append_right _ (List.mem_of_getElem? (i := 86) rfl)))))) rfl
theorem wd_1047 : (Jvm.Cond.instanceMethod ({ cls := "PinwheelKernelModel", name := "slot", desc := "()I" } : Jvm.MethodName)) ∈ mw := mw_in (List.mem_append_right _ (List.mem_append_right _ (List.mem_append_right _ (List.mem_append_right _ (List.mem_append_right _ (List.mem_of_getElem? (i := 87) rfl)))))) rfl
theorem wd_1048 : (Jvm.Cond.selects "PinwheelKernelModel" ({ cls := "PinwheelKernelModel", name := "slot", desc := "()I" } : Jvm.MethodName) ({ cls := "PinwheelKernelModel", name := "slot", desc := "()I" } : Jvm.MethodName)) ∈ mw := mw_in (List.mem_append_right _ (List.mem_append_right _ (List.mem_append_right _ (List.mem_append_right _ (List.mem_append_right _ (List.mem_of_getElem? (i := 88) rfl)))))) rfl
theorem wd_1049 : (Jvm.Cond.code ({ cls := "PinwheelKernelModel", name := "slot", desc := "()I" } : Jvm.MethodName) prog_7_method_24_code (3 : Nat) (Option.some Jvm.ClassFile.FieldType.int)) ∈ mw := mw_in (List.mem_append_right _ (List.mem_append_right _ (List.mem_append_right _ (List.mem_append_right _ (List.mem_append_right _ (List.mem_of_getElem? (i := 89) rfl)))))) rfl
theorem wd_1050 : (Jvm.Cond.methodLink "PinwheelKernelModel" (146 : Nat) ({ cls := "PinwheelKernelModel", name := "lookForSeam", desc := "()V" } : Jvm.MethodName)) ∈ mw := mw_in (List.mem_append_right _ (List.mem_append_right _ (List.mem_append_right _ (List.mem_append_right _ (List.mem_append_right _ (List.mem_of_getElem? (i := 90) rfl)))))) rfl
theorem wd_1052 : (Jvm.Cond.instanceMethod ({ cls := "PinwheelKernelModel", name := "lookForSeam", desc := "()V" } : Jvm.MethodName)) ∈ mw := mw_in (List.mem_append_right _ (List.mem_append_right _ (List.mem_append_right _ (List.mem_append_right _ (List.mem_append_right _ (List.mem_of_getElem? (i := 92) rfl)))))) rfl
theorem wd_1053 : (Jvm.Cond.code ({ cls := "PinwheelKernelModel", name := "lookForSeam", desc := "()V" } : Jvm.MethodName) prog_7_method_23_code (2 : Nat) (Option.none : Option Jvm.ClassFile.FieldType)) ∈ mw := mw_in (List.mem_append_right _ (List.mem_append_right _ (List.mem_append_right _ (List.mem_append_right _ (List.mem_append_right _ (List.mem_of_getElem? (i := 93) rfl)))))) rfl
theorem wd_1054 : (Jvm.Cond.methodLink "PinwheelKernelModel" (137 : Nat) ({ cls := "PinwheelKernelModel", name := "isSeam", desc := "(I)Z" } : Jvm.MethodName)) ∈ mw := mw_in (List.mem_append_right _ (List.mem_append_right _ (List.mem_append_right _ (List.mem_append_right _ (List.mem_append_right _ (List.mem_of_getElem? (i := 94) rfl)))))) rfl
theorem wd_1056 : (Jvm.Cond.instanceMethod ({ cls := "PinwheelKernelModel", name := "isSeam", desc := "(I)Z" } : Jvm.MethodName)) ∈ mw := mw_in (List.mem_append_right _ (List.mem_append_right _ (List.mem_append_right _ (List.mem_append_right _ (List.mem_append_right _ (List.mem_of_getElem? (i := 96) rfl)))))) rfl
theorem wd_1057 : (Jvm.Cond.code ({ cls := "PinwheelKernelModel", name := "isSeam", desc := "(I)Z" } : Jvm.MethodName) prog_7_method_21_code (6 : Nat) (Option.some Jvm.ClassFile.FieldType.boolean)) ∈ mw := mw_in (List.mem_append_right _ (List.mem_append_right _ (List.mem_append_right _ (List.mem_append_right _ (List.mem_append_right _ (List.mem_of_getElem? (i := 97) rfl)))))) rfl
theorem wd_1058 : (Jvm.Cond.methodLink "PinwheelKernelModel" (140 : Nat) ({ cls := "PinwheelKernelModel", name := "takeOver", desc := "(I)V" } : Jvm.MethodName)) ∈ mw := mw_in (List.mem_append_right _ (List.mem_append_right _ (List.mem_append_right _ (List.mem_append_right _ (List.mem_append_right _ (List.mem_of_getElem? (i := 98) rfl)))))) rfl
theorem wd_1060 : (Jvm.Cond.instanceMethod ({ cls := "PinwheelKernelModel", name := "takeOver", desc := "(I)V" } : Jvm.MethodName)) ∈ mw := mw_in (List.mem_append_right _ (List.mem_append_right _ (List.mem_append_right _ (List.mem_append_right _ (List.mem_append_right _ (List.mem_of_getElem? (i := 100) rfl)))))) rfl
theorem wd_1061 : (Jvm.Cond.code ({ cls := "PinwheelKernelModel", name := "takeOver", desc := "(I)V" } : Jvm.MethodName) prog_7_method_22_code (4 : Nat) (Option.none : Option Jvm.ClassFile.FieldType)) ∈ mw := mw_in (List.mem_append_right _ (List.mem_append_right _ (List.mem_append_right _ (List.mem_append_right _ (List.mem_append_right _ (List.mem_of_getElem? (i := 101) rfl)))))) rfl
theorem wd_1062 : (Jvm.Cond.methodLink "PinwheelKernelLaw" (79 : Nat) ({ cls := "PinwheelKernelModel", name := "wish", desc := "(I)V" } : Jvm.MethodName)) ∈ mw := mw_in (List.mem_append_right _ (List.mem_append_right _ (List.mem_append_right _ (List.mem_append_right _ (List.mem_append_right _ (List.mem_of_getElem? (i := 102) rfl)))))) rfl
theorem wd_1063 : (Jvm.Cond.instanceMethod ({ cls := "PinwheelKernelModel", name := "wish", desc := "(I)V" } : Jvm.MethodName)) ∈ mw := mw_in (List.mem_append_right _ (List.mem_append_right _ (List.mem_append_right _ (List.mem_append_right _ (List.mem_append_right _ (List.mem_of_getElem? (i := 103) rfl)))))) rfl
theorem wd_1064 : (Jvm.Cond.selects "PinwheelKernelModel" ({ cls := "PinwheelKernelModel", name := "wish", desc := "(I)V" } : Jvm.MethodName) ({ cls := "PinwheelKernelModel", name := "wish", desc := "(I)V" } : Jvm.MethodName)) ∈ mw := mw_in (List.mem_append_right _ (List.mem_append_right _ (List.mem_append_right _ (List.mem_append_right _ (List.mem_append_right _ (List.mem_of_getElem? (i := 104) rfl)))))) rfl
theorem wd_1065 : (Jvm.Cond.code ({ cls := "PinwheelKernelModel", name := "wish", desc := "(I)V" } : Jvm.MethodName) prog_7_method_25_code (2 : Nat) (Option.none : Option Jvm.ClassFile.FieldType)) ∈ mw := mw_in (List.mem_append_right _ (List.mem_append_right _ (List.mem_append_right _ (List.mem_append_right _ (List.mem_append_right _ (List.mem_of_getElem? (i := 105) rfl)))))) rfl
theorem wd_1066 : (Jvm.Cond.methodLink "PinwheelKernelLaw" (82 : Nat) ({ cls := "PinwheelKernelModel", name := "waited", desc := "(I)I" } : Jvm.MethodName)) ∈ mw := mw_in (List.mem_append_right _ (List.mem_append_right _ (List.mem_append_right _ (List.mem_append_right _ (List.mem_append_right _ (List.mem_of_getElem? (i := 106) rfl)))))) rfl
theorem wd_1067 : (Jvm.Cond.instanceMethod ({ cls := "PinwheelKernelModel", name := "waited", desc := "(I)I" } : Jvm.MethodName)) ∈ mw := mw_in (List.mem_append_right _ (List.mem_append_right _ (List.mem_append_right _ (List.mem_append_right _ (List.mem_append_right _ (List.mem_of_getElem? (i := 107) rfl)))))) rfl
theorem wd_1068 : (Jvm.Cond.selects "PinwheelKernelModel" ({ cls := "PinwheelKernelModel", name := "waited", desc := "(I)I" } : Jvm.MethodName) ({ cls := "PinwheelKernelModel", name := "waited", desc := "(I)I" } : Jvm.MethodName)) ∈ mw := mw_in (List.mem_append_right _ (List.mem_append_right _ (List.mem_append_right _ (List.mem_append_right _ (List.mem_append_right _ (List.mem_of_getElem? (i := 108) rfl)))))) rfl
theorem wd_1069 : (Jvm.Cond.code ({ cls := "PinwheelKernelModel", name := "waited", desc := "(I)I" } : Jvm.MethodName) prog_7_method_26_code (3 : Nat) (Option.some Jvm.ClassFile.FieldType.int)) ∈ mw := mw_in (List.mem_append_right _ (List.mem_append_right _ (List.mem_append_right _ (List.mem_append_right _ (List.mem_append_right _ (List.mem_of_getElem? (i := 109) rfl)))))) rfl
theorem wd_1070 : (Jvm.Cond.methodLink "PinwheelKernelLaw" (85 : Nat) ({ cls := "PinwheelKernelModel", name := "worst", desc := "(I)I" } : Jvm.MethodName)) ∈ mw := mw_in (List.mem_append_right _ (List.mem_append_right _ (List.mem_append_right _ (List.mem_append_right _ (List.mem_append_right _ (List.mem_of_getElem? (i := 110) rfl)))))) rfl
theorem wd_1071 : (Jvm.Cond.instanceMethod ({ cls := "PinwheelKernelModel", name := "worst", desc := "(I)I" } : Jvm.MethodName)) ∈ mw := mw_in (List.mem_append_right _ (List.mem_append_right _ (List.mem_append_right _ (List.mem_append_right _ (List.mem_append_right _ (List.mem_of_getElem? (i := 111) rfl)))))) rfl
theorem wd_1072 : (Jvm.Cond.selects "PinwheelKernelModel" ({ cls := "PinwheelKernelModel", name := "worst", desc := "(I)I" } : Jvm.MethodName) ({ cls := "PinwheelKernelModel", name := "worst", desc := "(I)I" } : Jvm.MethodName)) ∈ mw := mw_in (List.mem_append_right _ (List.mem_append_right _ (List.mem_append_right _ (List.mem_append_right _ (List.mem_append_right _ (List.mem_of_getElem? (i := 112) rfl)))))) rfl
theorem wd_1073 : (Jvm.Cond.code ({ cls := "PinwheelKernelModel", name := "worst", desc := "(I)I" } : Jvm.MethodName) prog_7_method_27_code (3 : Nat) (Option.some Jvm.ClassFile.FieldType.int)) ∈ mw := mw_in (List.mem_append_right _ (List.mem_append_right _ (List.mem_append_right _ (List.mem_append_right _ (List.mem_append_right _ (List.mem_of_getElem? (i := 113) rfl)))))) rfl
theorem wd_1074 : (Jvm.Cond.methodLink "PinwheelKernelLaw" (88 : Nat) ({ cls := "PinwheelKernelModel", name := "span", desc := "(I)I" } : Jvm.MethodName)) ∈ mw := mw_in (List.mem_append_right _ (List.mem_append_right _ (List.mem_append_right _ (List.mem_append_right _ (List.mem_append_right _ (List.mem_of_getElem? (i := 114) rfl)))))) rfl
theorem wd_1075 : (Jvm.Cond.instanceMethod ({ cls := "PinwheelKernelModel", name := "span", desc := "(I)I" } : Jvm.MethodName)) ∈ mw := mw_in (List.mem_append_right _ (List.mem_append_right _ (List.mem_append_right _ (List.mem_append_right _ (List.mem_append_right _ (List.mem_of_getElem? (i := 115) rfl)))))) rfl
theorem wd_1076 : (Jvm.Cond.selects "PinwheelKernelModel" ({ cls := "PinwheelKernelModel", name := "span", desc := "(I)I" } : Jvm.MethodName) ({ cls := "PinwheelKernelModel", name := "span", desc := "(I)I" } : Jvm.MethodName)) ∈ mw := mw_in (List.mem_append_right _ (List.mem_append_right _ (List.mem_append_right _ (List.mem_append_right _ (List.mem_append_right _ (List.mem_of_getElem? (i := 116) rfl)))))) rfl
theorem wd_1077 : (Jvm.Cond.code ({ cls := "PinwheelKernelModel", name := "span", desc := "(I)I" } : Jvm.MethodName) prog_7_method_28_code (3 : Nat) (Option.some Jvm.ClassFile.FieldType.int)) ∈ mw := mw_in (List.mem_append_right _ (List.mem_append_right _ (List.mem_append_right _ (List.mem_append_right _ (List.mem_append_right _ (List.mem_of_getElem? (i := 117) rfl)))))) rfl
theorem wd_1078 : (Jvm.Cond.methodLink "PinwheelKernelLaw" (92 : Nat) ({ cls := "PinwheelKernelModel", name := "cycle", desc := "(ZI)I" } : Jvm.MethodName)) ∈ mw := mw_in (List.mem_append_right _ (List.mem_append_right _ (List.mem_append_right _ (List.mem_append_right _ (List.mem_append_right _ (List.mem_of_getElem? (i := 118) rfl)))))) rfl
theorem wd_1079 : (Jvm.Cond.instanceMethod ({ cls := "PinwheelKernelModel", name := "cycle", desc := "(ZI)I" } : Jvm.MethodName)) ∈ mw := mw_in (List.mem_append_right _ (List.mem_append_right _ (List.mem_append_right _ (List.mem_append_right _ (List.mem_append_right _ (List.mem_of_getElem? (i := 119) rfl)))))) rfl
theorem wd_1080 : (Jvm.Cond.selects "PinwheelKernelModel" ({ cls := "PinwheelKernelModel", name := "cycle", desc := "(ZI)I" } : Jvm.MethodName) ({ cls := "PinwheelKernelModel", name := "cycle", desc := "(ZI)I" } : Jvm.MethodName)) ∈ mw := mw_in (List.mem_append_right _ (List.mem_append_right _ (List.mem_append_right _ (List.mem_append_right _ (List.mem_append_right _ (List.mem_of_getElem? (i := 120) rfl)))))) rfl
theorem wd_1081 : (Jvm.Cond.code ({ cls := "PinwheelKernelModel", name := "cycle", desc := "(ZI)I" } : Jvm.MethodName) prog_7_method_29_code (5 : Nat) (Option.some Jvm.ClassFile.FieldType.int)) ∈ mw := mw_in (List.mem_append_right _ (List.mem_append_right _ (List.mem_append_right _ (List.mem_append_right _ (List.mem_append_right _ (List.mem_of_getElem? (i := 121) rfl)))))) rfl
theorem wd_1082 : (Jvm.Cond.methodLink "PinwheelKernelLaw" (95 : Nat) ({ cls := "PinwheelKernelModel", name := "about", desc := "(I)I" } : Jvm.MethodName)) ∈ mw := mw_in (List.mem_append_right _ (List.mem_append_right _ (List.mem_append_right _ (List.mem_append_right _ (List.mem_append_right _ (List.mem_of_getElem? (i := 122) rfl)))))) rfl
theorem wd_1083 : (Jvm.Cond.instanceMethod ({ cls := "PinwheelKernelModel", name := "about", desc := "(I)I" } : Jvm.MethodName)) ∈ mw := mw_in (List.mem_append_right _ (List.mem_append_right _ (List.mem_append_right _ (List.mem_append_right _ (List.mem_append_right _ (List.mem_of_getElem? (i := 123) rfl)))))) rfl
theorem wd_1084 : (Jvm.Cond.selects "PinwheelKernelModel" ({ cls := "PinwheelKernelModel", name := "about", desc := "(I)I" } : Jvm.MethodName) ({ cls := "PinwheelKernelModel", name := "about", desc := "(I)I" } : Jvm.MethodName)) ∈ mw := mw_in (List.mem_append_right _ (List.mem_append_right _ (List.mem_append_right _ (List.mem_append_right _ (List.mem_append_right _ (List.mem_of_getElem? (i := 124) rfl)))))) rfl
theorem wd_1085 : (Jvm.Cond.code ({ cls := "PinwheelKernelModel", name := "about", desc := "(I)I" } : Jvm.MethodName) prog_7_method_30_code (2 : Nat) (Option.some Jvm.ClassFile.FieldType.int)) ∈ mw := mw_in (List.mem_append_right _ (List.mem_append_right _ (List.mem_append_right _ (List.mem_append_right _ (List.mem_append_right _ (List.mem_of_getElem? (i := 125) rfl)))))) rfl
theorem wd_1086 : (Jvm.Cond.methodLink "PinwheelKernelLaw" (98 : Nat) ({ cls := "PinwheelKernelModel", name := "client", desc := "(I)I" } : Jvm.MethodName)) ∈ mw := mw_in (List.mem_append_right _ (List.mem_append_right _ (List.mem_append_right _ (List.mem_append_right _ (List.mem_append_right _ (List.mem_of_getElem? (i := 126) rfl)))))) rfl
theorem wd_1087 : (Jvm.Cond.instanceMethod ({ cls := "PinwheelKernelModel", name := "client", desc := "(I)I" } : Jvm.MethodName)) ∈ mw := mw_in (List.mem_append_right _ (List.mem_append_right _ (List.mem_append_right _ (List.mem_append_right _ (List.mem_append_right _ (List.mem_of_getElem? (i := 127) rfl)))))) rfl
theorem wd_1088 : (Jvm.Cond.selects "PinwheelKernelModel" ({ cls := "PinwheelKernelModel", name := "client", desc := "(I)I" } : Jvm.MethodName) ({ cls := "PinwheelKernelModel", name := "client", desc := "(I)I" } : Jvm.MethodName)) ∈ mw := mw_in (List.mem_append_right _ (List.mem_append_right _ (List.mem_append_right _ (List.mem_append_right _ (List.mem_append_right _ (List.mem_of_getElem? (i := 128) rfl)))))) rfl
theorem wd_1089 : (Jvm.Cond.code ({ cls := "PinwheelKernelModel", name := "client", desc := "(I)I" } : Jvm.MethodName) prog_7_method_31_code (2 : Nat) (Option.some Jvm.ClassFile.FieldType.int)) ∈ mw := mw_in (List.mem_append_right _ (List.mem_append_right _ (List.mem_append_right _ (List.mem_append_right _ (List.mem_append_right _ (List.mem_of_getElem? (i := 129) rfl)))))) rfl
theorem wd_1090 : (Jvm.Cond.methodLink "PinwheelKernelLaw" (101 : Nat) ({ cls := "PinwheelKernelModel", name := "density", desc := "(I)J" } : Jvm.MethodName)) ∈ mw := mw_in (List.mem_append_right _ (List.mem_append_right _ (List.mem_append_right _ (List.mem_append_right _ (List.mem_append_right _ (List.mem_of_getElem? (i := 130) rfl)))))) rfl
theorem wd_1091 : (Jvm.Cond.instanceMethod ({ cls := "PinwheelKernelModel", name := "density", desc := "(I)J" } : Jvm.MethodName)) ∈ mw := mw_in (List.mem_append_right _ (List.mem_append_right _ (List.mem_append_right _ (List.mem_append_right _ (List.mem_append_right _ (List.mem_of_getElem? (i := 131) rfl)))))) rfl
theorem wd_1092 : (Jvm.Cond.selects "PinwheelKernelModel" ({ cls := "PinwheelKernelModel", name := "density", desc := "(I)J" } : Jvm.MethodName) ({ cls := "PinwheelKernelModel", name := "density", desc := "(I)J" } : Jvm.MethodName)) ∈ mw := mw_in (List.mem_append_right _ (List.mem_append_right _ (List.mem_append_right _ (List.mem_append_right _ (List.mem_append_right _ (List.mem_of_getElem? (i := 132) rfl)))))) rfl
theorem wd_1093 : (Jvm.Cond.code ({ cls := "PinwheelKernelModel", name := "density", desc := "(I)J" } : Jvm.MethodName) prog_7_method_33_code (9 : Nat) (Option.some Jvm.ClassFile.FieldType.long)) ∈ mw := mw_in (List.mem_append_right _ (List.mem_append_right _ (List.mem_append_right _ (List.mem_append_right _ (List.mem_append_right _ (List.mem_of_getElem? (i := 133) rfl)))))) rfl
theorem wd_1094 : (Jvm.Cond.methodLink "PinwheelKernelModel" (152 : Nat) ({ cls := "PinwheelKernelModel", name := "common", desc := "(JJ)J" } : Jvm.MethodName)) ∈ mw := mw_in (List.mem_append_right _ (List.mem_append_right _ (List.mem_append_right _ (List.mem_append_right _ (List.mem_append_right _ (List.mem_of_getElem? (i := 134) rfl)))))) rfl
theorem wd_1095 : (Jvm.Cond.static ({ cls := "PinwheelKernelModel", name := "common", desc := "(JJ)J" } : Jvm.MethodName)) ∈ mw := mw_in (List.mem_append_right _ (List.mem_append_right _ (List.mem_append_right _ (List.mem_append_right _ (List.mem_append_right _ (List.mem_of_getElem? (i := 135) rfl)))))) rfl
theorem wd_1096 : (Jvm.Cond.code ({ cls := "PinwheelKernelModel", name := "common", desc := "(JJ)J" } : Jvm.MethodName) prog_7_method_32_code (10 : Nat) (Option.some Jvm.ClassFile.FieldType.long)) ∈ mw := mw_in (List.mem_append_right _ (List.mem_append_right _ (List.mem_append_right _ (List.mem_append_right _ (List.mem_append_right _ (List.mem_of_getElem? (i := 136) rfl)))))) rfl
theorem wd_1097 : (Jvm.Cond.methodLink "PinwheelKernelLaw" (105 : Nat) ({ cls := "PinwheelKernelModel", name := "feasible", desc := "()I" } : Jvm.MethodName)) ∈ mw := mw_in (List.mem_append_right _ (List.mem_append_right _ (List.mem_append_right _ (List.mem_append_right _ (List.mem_append_right _ (List.mem_of_getElem? (i := 137) rfl)))))) rfl
theorem wd_1098 : (Jvm.Cond.instanceMethod ({ cls := "PinwheelKernelModel", name := "feasible", desc := "()I" } : Jvm.MethodName)) ∈ mw := mw_in (List.mem_append_right _ (List.mem_append_right _ (List.mem_append_right _ (List.mem_append_right _ (List.mem_append_right _ (List.mem_of_getElem? (i := 138) rfl)))))) rfl
theorem wd_1099 : (Jvm.Cond.selects "PinwheelKernelModel" ({ cls := "PinwheelKernelModel", name := "feasible", desc := "()I" } : Jvm.MethodName) ({ cls := "PinwheelKernelModel", name := "feasible", desc := "()I" } : Jvm.MethodName)) ∈ mw := mw_in (List.mem_append_right _ (List.mem_append_right _ (List.mem_append_right _ (List.mem_append_right _ (List.mem_append_right _ (List.mem_of_getElem? (i := 139) rfl)))))) rfl
theorem wd_1100 : (Jvm.Cond.code ({ cls := "PinwheelKernelModel", name := "feasible", desc := "()I" } : Jvm.MethodName) prog_7_method_34_code (3 : Nat) (Option.some Jvm.ClassFile.FieldType.int)) ∈ mw := mw_in (List.mem_append_right _ (List.mem_append_right _ (List.mem_append_right _ (List.mem_append_right _ (List.mem_append_right _ (List.mem_of_getElem? (i := 140) rfl)))))) rfl
theorem wd_1101 : (Jvm.Cond.arrayClass Jvm.ClassFile.FieldType.long) ∈ mw := mw_in (List.mem_append_right _ (List.mem_append_right _ (List.mem_append_right _ (List.mem_append_right _ (List.mem_append_right _ (List.mem_of_getElem? (i := 141) rfl)))))) rfl
theorem wd_1102 : (Jvm.Cond.sameMethod "java/lang/Throwable" "java/lang/Throwable" "fillInStackTrace" "(I)Ljava/lang/Throwable;") ∈ mw := mw_in (List.mem_append_right _ (List.mem_append_right _ (List.mem_append_right _ (List.mem_append_right _ (List.mem_append_right _ (List.mem_of_getElem? (i := 142) rfl)))))) rfl
/-- words that stay too, by rows of their own -/
def nzl : List Cond := [(Jvm.Cond.methodLinkNest "PinwheelKernel" (9 : Nat) ({ cls := "PinwheelKernel$RoundingBuilder", name := "<init>", desc := "()V" } : Jvm.MethodName) "PinwheelKernel"), (Jvm.Cond.methodLinkNest "PinwheelKernel" (22 : Nat) ({ cls := "PinwheelKernel$Clients", name := "<init>", desc := "()V" } : Jvm.MethodName) "PinwheelKernel"), (Jvm.Cond.methodLinkNest "PinwheelKernel" (32 : Nat) ({ cls := "PinwheelKernel$Cycle", name := "<init>", desc := "()V" } : Jvm.MethodName) "PinwheelKernel"), (Jvm.Cond.methodLinkNest "PinwheelKernel" (170 : Nat) ({ cls := "PinwheelKernel$StateBuilder", name := "<init>", desc := "()V" } : Jvm.MethodName) "PinwheelKernel"), (Jvm.Cond.castable "java/lang/IllegalArgumentException" "java/lang/IllegalArgumentException"), (Jvm.Cond.declares ({ cls := "java/lang/RuntimeException", name := "<init>", desc := "()V" } : Jvm.MethodName)), (Jvm.Cond.declares ({ cls := "java/lang/RuntimeException", name := "<init>", desc := "(Ljava/lang/String;)V" } : Jvm.MethodName)), (Jvm.Cond.declares ({ cls := "java/lang/Exception", name := "<init>", desc := "()V" } : Jvm.MethodName)), (Jvm.Cond.declares ({ cls := "java/lang/Exception", name := "<init>", desc := "(Ljava/lang/String;)V" } : Jvm.MethodName)), (Jvm.Cond.declares ({ cls := "java/lang/Throwable", name := "<init>", desc := "()V" } : Jvm.MethodName)), (Jvm.Cond.declares ({ cls := "java/lang/Throwable", name := "<init>", desc := "(Ljava/lang/String;)V" } : Jvm.MethodName)), (Jvm.Cond.castable "java/lang/IllegalStateException" "java/lang/IllegalStateException"), (Jvm.Cond.castable "java/lang/UnsupportedOperationException" "java/lang/UnsupportedOperationException"), (Jvm.Cond.fieldLinkNest "PinwheelKernel$RoundingBuilder" (25 : Nat) "PinwheelKernel" "BASES" "[I" "PinwheelKernel"), (Jvm.Cond.castable "java/util/NoSuchElementException" "java/util/NoSuchElementException"), (Jvm.Cond.castable "java/lang/IndexOutOfBoundsException" "java/lang/IndexOutOfBoundsException"), (Jvm.Cond.castable "java/lang/ArrayIndexOutOfBoundsException" "java/lang/IndexOutOfBoundsException")]
def nz (U : State) : Prop := ∀ w ∈ nzl, va_Nw w U
theorem nz_tbl : ∀ w ∈ nzl, w ∈ lw_tbl := by
  unfold nzl
  exact List.forall_mem_cons.mpr ⟨List.mem_append_right _ (List.mem_append_left _ (List.mem_of_getElem? (i := 37) rfl)), List.forall_mem_cons.mpr ⟨List.mem_append_right _ (List.mem_append_left _ (List.mem_of_getElem? (i := 48) rfl)), List.forall_mem_cons.mpr ⟨List.mem_append_right _ (List.mem_append_left _ (List.mem_of_getElem? (i := 70) rfl)), List.forall_mem_cons.mpr ⟨List.mem_append_right _ (List.mem_append_left _ (List.mem_of_getElem? (i := 198) rfl)), List.forall_mem_cons.mpr ⟨List.mem_append_right _ (List.mem_append_right _ (List.mem_append_left _ (List.mem_of_getElem? (i := 51) rfl))), List.forall_mem_cons.mpr ⟨List.mem_append_right _ (List.mem_append_right _ (List.mem_append_left _ (List.mem_of_getElem? (i := 52) rfl))), List.forall_mem_cons.mpr ⟨List.mem_append_right _ (List.mem_append_right _ (List.mem_append_left _ (List.mem_of_getElem? (i := 53) rfl))), List.forall_mem_cons.mpr ⟨List.mem_append_right _ (List.mem_append_right _ (List.mem_append_left _ (List.mem_of_getElem? (i := 54) rfl))), List.forall_mem_cons.mpr ⟨List.mem_append_right _ (List.mem_append_right _ (List.mem_append_left _ (List.mem_of_getElem? (i := 55) rfl))), List.forall_mem_cons.mpr ⟨List.mem_append_right _ (List.mem_append_right _ (List.mem_append_left _ (List.mem_of_getElem? (i := 56) rfl))), List.forall_mem_cons.mpr ⟨List.mem_append_right _ (List.mem_append_right _ (List.mem_append_left _ (List.mem_of_getElem? (i := 57) rfl))), List.forall_mem_cons.mpr ⟨List.mem_append_right _ (List.mem_append_right _ (List.mem_append_left _ (List.mem_of_getElem? (i := 118) rfl))), List.forall_mem_cons.mpr ⟨List.mem_append_right _ (List.mem_append_right _ (List.mem_append_left _ (List.mem_of_getElem? (i := 133) rfl))), List.forall_mem_cons.mpr ⟨List.mem_append_right _ (List.mem_append_right _ (List.mem_append_right _ (List.mem_append_right _ (List.mem_append_left _ (List.mem_of_getElem? (i := 10) rfl))))), List.forall_mem_cons.mpr ⟨List.mem_append_right _ (List.mem_append_right _ (List.mem_append_right _ (List.mem_append_right _ (List.mem_append_left _ (List.mem_of_getElem? (i := 62) rfl))))), List.forall_mem_cons.mpr ⟨List.mem_append_right _ (List.mem_append_right _ (List.mem_append_right _ (List.mem_append_right _ (List.mem_append_left _ (List.mem_of_getElem? (i := 127) rfl))))), List.forall_mem_cons.mpr ⟨List.mem_append_right _ (List.mem_append_right _ (List.mem_append_right _ (List.mem_append_right _ (List.mem_append_right _ (List.mem_of_getElem? (i := 151) rfl))))), fun _ h => absurd h List.not_mem_nil⟩⟩⟩⟩⟩⟩⟩⟩⟩⟩⟩⟩⟩⟩⟩⟩⟩
theorem nz_warm {s U : State} (hW : s.WarmedH U.vm) (h : nz s) : nz U := by
  unfold nz nzl at h ⊢
  rcases h with h
  have h0 := h _ (List.mem_of_getElem? (i := 0) rfl)
  have h1 := h _ (List.mem_of_getElem? (i := 1) rfl)
  have h2 := h _ (List.mem_of_getElem? (i := 2) rfl)
  have h3 := h _ (List.mem_of_getElem? (i := 3) rfl)
  have h4 := h _ (List.mem_of_getElem? (i := 4) rfl)
  have h5 := h _ (List.mem_of_getElem? (i := 5) rfl)
  have h6 := h _ (List.mem_of_getElem? (i := 6) rfl)
  have h7 := h _ (List.mem_of_getElem? (i := 7) rfl)
  have h8 := h _ (List.mem_of_getElem? (i := 8) rfl)
  have h9 := h _ (List.mem_of_getElem? (i := 9) rfl)
  have h10 := h _ (List.mem_of_getElem? (i := 10) rfl)
  have h11 := h _ (List.mem_of_getElem? (i := 11) rfl)
  have h12 := h _ (List.mem_of_getElem? (i := 12) rfl)
  have h13 := h _ (List.mem_of_getElem? (i := 13) rfl)
  have h14 := h _ (List.mem_of_getElem? (i := 14) rfl)
  have h15 := h _ (List.mem_of_getElem? (i := 15) rfl)
  have h16 := h _ (List.mem_of_getElem? (i := 16) rfl)
  exact List.forall_mem_cons.mpr ⟨va_Nw.warmM hW h0, List.forall_mem_cons.mpr ⟨va_Nw.warmM hW h1, List.forall_mem_cons.mpr ⟨va_Nw.warmM hW h2, List.forall_mem_cons.mpr ⟨va_Nw.warmM hW h3, List.forall_mem_cons.mpr ⟨va_Nw.warmC hW h4, List.forall_mem_cons.mpr ⟨va_Nw.warmD hW h5, List.forall_mem_cons.mpr ⟨va_Nw.warmD hW h6, List.forall_mem_cons.mpr ⟨va_Nw.warmD hW h7, List.forall_mem_cons.mpr ⟨va_Nw.warmD hW h8, List.forall_mem_cons.mpr ⟨va_Nw.warmD hW h9, List.forall_mem_cons.mpr ⟨va_Nw.warmD hW h10, List.forall_mem_cons.mpr ⟨va_Nw.warmC hW h11, List.forall_mem_cons.mpr ⟨va_Nw.warmC hW h12, List.forall_mem_cons.mpr ⟨va_Nw.warmF hW h13, List.forall_mem_cons.mpr ⟨va_Nw.warmC hW h14, List.forall_mem_cons.mpr ⟨va_Nw.warmC hW h15, List.forall_mem_cons.mpr ⟨va_Nw.warmC hW h16, fun _ h => absurd h List.not_mem_nil⟩⟩⟩⟩⟩⟩⟩⟩⟩⟩⟩⟩⟩⟩⟩⟩⟩
theorem nz_same {s U : State} (hvm : s.vm = U.vm) (h : nz s) : nz U := by
  intro w hw
  have ho : nzl.all (fun w => w.onTables) = true := by decide +kernel
  exact va_Nw.same (List.all_eq_true.mp ho w hw) hvm (h w hw)
theorem nz_of {args : Array Value} {s : State} (ht : ∀ w ∈ lw_tbl, w.before args s = true) : nz s := by
  intro w hw
  have ho : nzl.all (fun w => w.onTables) = true := by decide +kernel
  exact va_Nw.of (List.all_eq_true.mp ho w hw) (ht w (nz_tbl w hw))
theorem nw_37 {U : State} (h : nz U) : va_Nw (Jvm.Cond.methodLinkNest "PinwheelKernel" (9 : Nat) ({ cls := "PinwheelKernel$RoundingBuilder", name := "<init>", desc := "()V" } : Jvm.MethodName) "PinwheelKernel") U := h _ (List.mem_of_getElem? (i := 0) rfl)
theorem nw_48 {U : State} (h : nz U) : va_Nw (Jvm.Cond.methodLinkNest "PinwheelKernel" (22 : Nat) ({ cls := "PinwheelKernel$Clients", name := "<init>", desc := "()V" } : Jvm.MethodName) "PinwheelKernel") U := h _ (List.mem_of_getElem? (i := 1) rfl)
theorem nw_70 {U : State} (h : nz U) : va_Nw (Jvm.Cond.methodLinkNest "PinwheelKernel" (32 : Nat) ({ cls := "PinwheelKernel$Cycle", name := "<init>", desc := "()V" } : Jvm.MethodName) "PinwheelKernel") U := h _ (List.mem_of_getElem? (i := 2) rfl)
theorem nw_198 {U : State} (h : nz U) : va_Nw (Jvm.Cond.methodLinkNest "PinwheelKernel" (170 : Nat) ({ cls := "PinwheelKernel$StateBuilder", name := "<init>", desc := "()V" } : Jvm.MethodName) "PinwheelKernel") U := h _ (List.mem_of_getElem? (i := 3) rfl)
theorem nw_291 {U : State} (h : nz U) : va_Nw (Jvm.Cond.castable "java/lang/IllegalArgumentException" "java/lang/IllegalArgumentException") U := h _ (List.mem_of_getElem? (i := 4) rfl)
theorem nw_292 {U : State} (h : nz U) : va_Nw (Jvm.Cond.declares ({ cls := "java/lang/RuntimeException", name := "<init>", desc := "()V" } : Jvm.MethodName)) U := h _ (List.mem_of_getElem? (i := 5) rfl)
theorem nw_293 {U : State} (h : nz U) : va_Nw (Jvm.Cond.declares ({ cls := "java/lang/RuntimeException", name := "<init>", desc := "(Ljava/lang/String;)V" } : Jvm.MethodName)) U := h _ (List.mem_of_getElem? (i := 6) rfl)
theorem nw_294 {U : State} (h : nz U) : va_Nw (Jvm.Cond.declares ({ cls := "java/lang/Exception", name := "<init>", desc := "()V" } : Jvm.MethodName)) U := h _ (List.mem_of_getElem? (i := 7) rfl)
theorem nw_295 {U : State} (h : nz U) : va_Nw (Jvm.Cond.declares ({ cls := "java/lang/Exception", name := "<init>", desc := "(Ljava/lang/String;)V" } : Jvm.MethodName)) U := h _ (List.mem_of_getElem? (i := 8) rfl)
theorem nw_296 {U : State} (h : nz U) : va_Nw (Jvm.Cond.declares ({ cls := "java/lang/Throwable", name := "<init>", desc := "()V" } : Jvm.MethodName)) U := h _ (List.mem_of_getElem? (i := 9) rfl)
theorem nw_297 {U : State} (h : nz U) : va_Nw (Jvm.Cond.declares ({ cls := "java/lang/Throwable", name := "<init>", desc := "(Ljava/lang/String;)V" } : Jvm.MethodName)) U := h _ (List.mem_of_getElem? (i := 10) rfl)
theorem nw_358 {U : State} (h : nz U) : va_Nw (Jvm.Cond.castable "java/lang/IllegalStateException" "java/lang/IllegalStateException") U := h _ (List.mem_of_getElem? (i := 11) rfl)
theorem nw_373 {U : State} (h : nz U) : va_Nw (Jvm.Cond.castable "java/lang/UnsupportedOperationException" "java/lang/UnsupportedOperationException") U := h _ (List.mem_of_getElem? (i := 12) rfl)
theorem nw_730 {U : State} (h : nz U) : va_Nw (Jvm.Cond.fieldLinkNest "PinwheelKernel$RoundingBuilder" (25 : Nat) "PinwheelKernel" "BASES" "[I" "PinwheelKernel") U := h _ (List.mem_of_getElem? (i := 13) rfl)
theorem nw_782 {U : State} (h : nz U) : va_Nw (Jvm.Cond.castable "java/util/NoSuchElementException" "java/util/NoSuchElementException") U := h _ (List.mem_of_getElem? (i := 14) rfl)
theorem nw_847 {U : State} (h : nz U) : va_Nw (Jvm.Cond.castable "java/lang/IndexOutOfBoundsException" "java/lang/IndexOutOfBoundsException") U := h _ (List.mem_of_getElem? (i := 15) rfl)
theorem nw_1111 {U : State} (h : nz U) : va_Nw (Jvm.Cond.castable "java/lang/ArrayIndexOutOfBoundsException" "java/lang/IndexOutOfBoundsException") U := h _ (List.mem_of_getElem? (i := 16) rfl)
theorem ws_0 : Cond.selects "PinwheelKernel" ⟨"PinwheelKernel", "lookForSeam", "()V"⟩ ⟨"PinwheelKernel", "lookForSeam", "()V"⟩ ∈ mw := mw_in (List.mem_append_left _ (List.mem_map.mpr ⟨(⟨"PinwheelKernel", "lookForSeam", "()V"⟩, 11), List.mem_append_left _ (List.mem_of_getElem? (i := 0) rfl), rfl⟩)) rfl
theorem ws_1 : Cond.selects "PinwheelKernel$Clients" ⟨"PinwheelKernel$Clients", "copyAt", "(ILPinwheelKernel$Clients;I)V"⟩ ⟨"PinwheelKernel$Clients", "copyAt", "(ILPinwheelKernel$Clients;I)V"⟩ ∈ mw := mw_in (List.mem_append_left _ (List.mem_map.mpr ⟨(⟨"PinwheelKernel$Clients", "copyAt", "(ILPinwheelKernel$Clients;I)V"⟩, 5), List.mem_append_left _ (List.mem_of_getElem? (i := 1) rfl), rfl⟩)) rfl
theorem ws_2 : Cond.selects "PinwheelKernel$Cycle" ⟨"PinwheelKernel$Cycle", "canGoOnFrom", "(ILPinwheelKernel$Clients;)Z"⟩ ⟨"PinwheelKernel$Cycle", "canGoOnFrom", "(ILPinwheelKernel$Clients;)Z"⟩ ∈ mw := mw_in (List.mem_append_left _ (List.mem_map.mpr ⟨(⟨"PinwheelKernel$Cycle", "canGoOnFrom", "(ILPinwheelKernel$Clients;)Z"⟩, 3), List.mem_append_left _ (List.mem_of_getElem? (i := 2) rfl), rfl⟩)) rfl
theorem ws_3 : Cond.selects "PinwheelKernel$Cycle" ⟨"PinwheelKernel$Cycle", "comesWithin", "(III)Z"⟩ ⟨"PinwheelKernel$Cycle", "comesWithin", "(III)Z"⟩ ∈ mw := mw_in (List.mem_append_left _ (List.mem_map.mpr ⟨(⟨"PinwheelKernel$Cycle", "comesWithin", "(III)Z"⟩, 3), List.mem_append_left _ (List.mem_of_getElem? (i := 3) rfl), rfl⟩)) rfl
theorem ws_4 : Cond.selects "PinwheelKernel" ⟨"PinwheelKernel", "goOver", "(I)V"⟩ ⟨"PinwheelKernel", "goOver", "(I)V"⟩ ∈ mw := mw_in (List.mem_append_left _ (List.mem_map.mpr ⟨(⟨"PinwheelKernel", "goOver", "(I)V"⟩, 11), List.mem_append_left _ (List.mem_of_getElem? (i := 4) rfl), rfl⟩)) rfl
theorem ws_5 : Cond.selects "PinwheelKernel" ⟨"PinwheelKernel", "stateBuilder", "()LPinwheelKernel$StateBuilder;"⟩ ⟨"PinwheelKernel", "stateBuilder", "()LPinwheelKernel$StateBuilder;"⟩ ∈ mw := mw_in (List.mem_append_left _ (List.mem_map.mpr ⟨(⟨"PinwheelKernel", "stateBuilder", "()LPinwheelKernel$StateBuilder;"⟩, 11), List.mem_append_left _ (List.mem_of_getElem? (i := 5) rfl), rfl⟩)) rfl
theorem ws_6 : Cond.selects "PinwheelKernel$StateBuilder" ⟨"PinwheelKernel$StateBuilder", "takeInOrder", "(LPinwheelKernel$Clients;)V"⟩ ⟨"PinwheelKernel$StateBuilder", "takeInOrder", "(LPinwheelKernel$Clients;)V"⟩ ∈ mw := mw_in (List.mem_append_left _ (List.mem_map.mpr ⟨(⟨"PinwheelKernel$StateBuilder", "takeInOrder", "(LPinwheelKernel$Clients;)V"⟩, 11), List.mem_append_left _ (List.mem_of_getElem? (i := 6) rfl), rfl⟩)) rfl
theorem ws_7 : Cond.selects "PinwheelKernel$StateBuilder" ⟨"PinwheelKernel$StateBuilder", "weigh", "()V"⟩ ⟨"PinwheelKernel$StateBuilder", "weigh", "()V"⟩ ∈ mw := mw_in (List.mem_append_left _ (List.mem_map.mpr ⟨(⟨"PinwheelKernel$StateBuilder", "weigh", "()V"⟩, 11), List.mem_append_left _ (List.mem_of_getElem? (i := 7) rfl), rfl⟩)) rfl
theorem ws_8 : Cond.selects "PinwheelKernel$StateBuilder" ⟨"PinwheelKernel$StateBuilder", "listDeadEnds", "()V"⟩ ⟨"PinwheelKernel$StateBuilder", "listDeadEnds", "()V"⟩ ∈ mw := mw_in (List.mem_append_left _ (List.mem_map.mpr ⟨(⟨"PinwheelKernel$StateBuilder", "listDeadEnds", "()V"⟩, 11), List.mem_append_left _ (List.mem_of_getElem? (i := 8) rfl), rfl⟩)) rfl
theorem ws_9 : Cond.selects "PinwheelKernel$StateBuilder" ⟨"PinwheelKernel$StateBuilder", "countWaysOn", "(I)I"⟩ ⟨"PinwheelKernel$StateBuilder", "countWaysOn", "(I)I"⟩ ∈ mw := mw_in (List.mem_append_left _ (List.mem_map.mpr ⟨(⟨"PinwheelKernel$StateBuilder", "countWaysOn", "(I)I"⟩, 11), List.mem_append_left _ (List.mem_of_getElem? (i := 9) rfl), rfl⟩)) rfl
theorem ws_10 : Cond.selects "PinwheelKernel$StateBuilder" ⟨"PinwheelKernel$StateBuilder", "digit", "(II)I"⟩ ⟨"PinwheelKernel$StateBuilder", "digit", "(II)I"⟩ ∈ mw := mw_in (List.mem_append_left _ (List.mem_map.mpr ⟨(⟨"PinwheelKernel$StateBuilder", "digit", "(II)I"⟩, 11), List.mem_append_left _ (List.mem_of_getElem? (i := 10) rfl), rfl⟩)) rfl
theorem ws_11 : Cond.selects "PinwheelKernel$StateBuilder" ⟨"PinwheelKernel$StateBuilder", "strikeWaysTo", "(I)V"⟩ ⟨"PinwheelKernel$StateBuilder", "strikeWaysTo", "(I)V"⟩ ∈ mw := mw_in (List.mem_append_left _ (List.mem_map.mpr ⟨(⟨"PinwheelKernel$StateBuilder", "strikeWaysTo", "(I)V"⟩, 11), List.mem_append_left _ (List.mem_of_getElem? (i := 11) rfl), rfl⟩)) rfl
theorem ws_12 : Cond.selects "PinwheelKernel$StateBuilder" ⟨"PinwheelKernel$StateBuilder", "canComeFrom", "(II)Z"⟩ ⟨"PinwheelKernel$StateBuilder", "canComeFrom", "(II)Z"⟩ ∈ mw := mw_in (List.mem_append_left _ (List.mem_map.mpr ⟨(⟨"PinwheelKernel$StateBuilder", "canComeFrom", "(II)Z"⟩, 11), List.mem_append_left _ (List.mem_of_getElem? (i := 12) rfl), rfl⟩)) rfl
theorem ws_13 : Cond.selects "PinwheelKernel$StateBuilder" ⟨"PinwheelKernel$StateBuilder", "strikeOneWay", "(I)V"⟩ ⟨"PinwheelKernel$StateBuilder", "strikeOneWay", "(I)V"⟩ ∈ mw := mw_in (List.mem_append_left _ (List.mem_map.mpr ⟨(⟨"PinwheelKernel$StateBuilder", "strikeOneWay", "(I)V"⟩, 11), List.mem_append_left _ (List.mem_of_getElem? (i := 13) rfl), rfl⟩)) rfl
theorem ws_14 : Cond.selects "java/lang/Throwable" ⟨"java/lang/Throwable", "fillInStackTrace", "(I)Ljava/lang/Throwable;"⟩ ⟨"java/lang/Throwable", "fillInStackTrace", "(I)Ljava/lang/Throwable;"⟩ ∈ mw := mw_in (List.mem_append_left _ (List.mem_map.mpr ⟨(⟨"java/lang/Throwable", "fillInStackTrace", "(I)Ljava/lang/Throwable;"⟩, 6), List.mem_append_left _ (List.mem_of_getElem? (i := 14) rfl), rfl⟩)) rfl
theorem ws_15 : Cond.selects "PinwheelKernel" ⟨"PinwheelKernel", "layPlanned", "()I"⟩ ⟨"PinwheelKernel", "layPlanned", "()I"⟩ ∈ mw := mw_in (List.mem_append_left _ (List.mem_map.mpr ⟨(⟨"PinwheelKernel", "layPlanned", "()I"⟩, 11), List.mem_append_left _ (List.mem_of_getElem? (i := 15) rfl), rfl⟩)) rfl
theorem ws_16 : Cond.selects "PinwheelKernel$RoundingBuilder" ⟨"PinwheelKernel$RoundingBuilder", "layWithBase", "(ILPinwheelKernel$Clients;LPinwheelKernel$Cycle;)Z"⟩ ⟨"PinwheelKernel$RoundingBuilder", "layWithBase", "(ILPinwheelKernel$Clients;LPinwheelKernel$Cycle;)Z"⟩ ∈ mw := mw_in (List.mem_append_left _ (List.mem_map.mpr ⟨(⟨"PinwheelKernel$RoundingBuilder", "layWithBase", "(ILPinwheelKernel$Clients;LPinwheelKernel$Cycle;)Z"⟩, 1), List.mem_append_right _ (List.mem_append_left _ (List.mem_of_getElem? (i := 0) rfl)), rfl⟩)) rfl
theorem ws_17 : Cond.selects "PinwheelKernel$RoundingBuilder" ⟨"PinwheelKernel$RoundingBuilder", "roundAll", "(ILPinwheelKernel$Clients;)I"⟩ ⟨"PinwheelKernel$RoundingBuilder", "roundAll", "(ILPinwheelKernel$Clients;)I"⟩ ∈ mw := mw_in (List.mem_append_left _ (List.mem_map.mpr ⟨(⟨"PinwheelKernel$RoundingBuilder", "roundAll", "(ILPinwheelKernel$Clients;)I"⟩, 1), List.mem_append_right _ (List.mem_append_left _ (List.mem_of_getElem? (i := 1) rfl)), rfl⟩)) rfl
theorem ws_18 : Cond.selects "PinwheelKernel$RoundingBuilder" ⟨"PinwheelKernel$RoundingBuilder", "placesNeeded", "(II)I"⟩ ⟨"PinwheelKernel$RoundingBuilder", "placesNeeded", "(II)I"⟩ ∈ mw := mw_in (List.mem_append_left _ (List.mem_map.mpr ⟨(⟨"PinwheelKernel$RoundingBuilder", "placesNeeded", "(II)I"⟩, 1), List.mem_append_right _ (List.mem_append_left _ (List.mem_of_getElem? (i := 2) rfl)), rfl⟩)) rfl
theorem ws_19 : Cond.selects "PinwheelKernel$Cycle" ⟨"PinwheelKernel$Cycle", "makeRoom", "(I)V"⟩ ⟨"PinwheelKernel$Cycle", "makeRoom", "(I)V"⟩ ∈ mw := mw_in (List.mem_append_left _ (List.mem_map.mpr ⟨(⟨"PinwheelKernel$Cycle", "makeRoom", "(I)V"⟩, 3), List.mem_append_right _ (List.mem_append_left _ (List.mem_of_getElem? (i := 3) rfl)), rfl⟩)) rfl
theorem ws_20 : Cond.selects "PinwheelKernel$RoundingBuilder" ⟨"PinwheelKernel$RoundingBuilder", "giveToAllWith", "(ILPinwheelKernel$Clients;LPinwheelKernel$Cycle;)V"⟩ ⟨"PinwheelKernel$RoundingBuilder", "giveToAllWith", "(ILPinwheelKernel$Clients;LPinwheelKernel$Cycle;)V"⟩ ∈ mw := mw_in (List.mem_append_left _ (List.mem_map.mpr ⟨(⟨"PinwheelKernel$RoundingBuilder", "giveToAllWith", "(ILPinwheelKernel$Clients;LPinwheelKernel$Cycle;)V"⟩, 1), List.mem_append_right _ (List.mem_append_left _ (List.mem_of_getElem? (i := 4) rfl)), rfl⟩)) rfl
theorem ws_21 : Cond.selects "PinwheelKernel$Cycle" ⟨"PinwheelKernel$Cycle", "firstFree", "()I"⟩ ⟨"PinwheelKernel$Cycle", "firstFree", "()I"⟩ ∈ mw := mw_in (List.mem_append_left _ (List.mem_map.mpr ⟨(⟨"PinwheelKernel$Cycle", "firstFree", "()I"⟩, 3), List.mem_append_right _ (List.mem_append_left _ (List.mem_of_getElem? (i := 5) rfl)), rfl⟩)) rfl
theorem ws_22 : Cond.selects "PinwheelKernel$StateBuilder" ⟨"PinwheelKernel$StateBuilder", "firstSafeTurn", "(I)I"⟩ ⟨"PinwheelKernel$StateBuilder", "firstSafeTurn", "(I)I"⟩ ∈ mw := mw_in (List.mem_append_left _ (List.mem_map.mpr ⟨(⟨"PinwheelKernel$StateBuilder", "firstSafeTurn", "(I)I"⟩, 11), List.mem_append_right _ (List.mem_append_left _ (List.mem_of_getElem? (i := 6) rfl)), rfl⟩)) rfl
theorem ws_23 : Cond.selects "PinwheelKernel$StateBuilder" ⟨"PinwheelKernel$StateBuilder", "leadsToSafe", "(II)Z"⟩ ⟨"PinwheelKernel$StateBuilder", "leadsToSafe", "(II)Z"⟩ ∈ mw := mw_in (List.mem_append_left _ (List.mem_map.mpr ⟨(⟨"PinwheelKernel$StateBuilder", "leadsToSafe", "(II)Z"⟩, 11), List.mem_append_right _ (List.mem_append_left _ (List.mem_of_getElem? (i := 7) rfl)), rfl⟩)) rfl
theorem ws_24 : Cond.selects "PinwheelKernel$StateBuilder" ⟨"PinwheelKernel$StateBuilder", "canServe", "(II)Z"⟩ ⟨"PinwheelKernel$StateBuilder", "canServe", "(II)Z"⟩ ∈ mw := mw_in (List.mem_append_left _ (List.mem_map.mpr ⟨(⟨"PinwheelKernel$StateBuilder", "canServe", "(II)Z"⟩, 11), List.mem_append_right _ (List.mem_append_left _ (List.mem_of_getElem? (i := 8) rfl)), rfl⟩)) rfl
theorem ws_25 : Cond.selects "PinwheelKernel$StateBuilder" ⟨"PinwheelKernel$StateBuilder", "stateAfter", "(II)I"⟩ ⟨"PinwheelKernel$StateBuilder", "stateAfter", "(II)I"⟩ ∈ mw := mw_in (List.mem_append_left _ (List.mem_map.mpr ⟨(⟨"PinwheelKernel$StateBuilder", "stateAfter", "(II)I"⟩, 11), List.mem_append_right _ (List.mem_append_left _ (List.mem_of_getElem? (i := 9) rfl)), rfl⟩)) rfl
theorem ws_26 : Cond.selects "PinwheelKernel" ⟨"PinwheelKernel", "letWait", "(I)I"⟩ ⟨"PinwheelKernel", "letWait", "(I)I"⟩ ∈ mw := mw_in (List.mem_append_left _ (List.mem_map.mpr ⟨(⟨"PinwheelKernel", "letWait", "(I)I"⟩, 11), List.mem_append_right _ (List.mem_append_left _ (List.mem_of_getElem? (i := 10) rfl)), rfl⟩)) rfl
theorem ws_27 : Cond.selects "PinwheelKernel" ⟨"PinwheelKernel", "indexOf", "(I)I"⟩ ⟨"PinwheelKernel", "indexOf", "(I)I"⟩ ∈ mw := mw_in (List.mem_append_left _ (List.mem_map.mpr ⟨(⟨"PinwheelKernel", "indexOf", "(I)I"⟩, 11), List.mem_append_right _ (List.mem_append_left _ (List.mem_of_getElem? (i := 11) rfl)), rfl⟩)) rfl
theorem ws_28 : Cond.selects "PinwheelKernelModel" ⟨"PinwheelKernelModel", "find", "(I)I"⟩ ⟨"PinwheelKernelModel", "find", "(I)I"⟩ ∈ mw := mw_in (List.mem_append_left _ (List.mem_map.mpr ⟨(⟨"PinwheelKernelModel", "find", "(I)I"⟩, 25), List.mem_append_right _ (List.mem_append_left _ (List.mem_of_getElem? (i := 12) rfl)), rfl⟩)) rfl
theorem ws_29 : Cond.selects "PinwheelKernelModel" ⟨"PinwheelKernelModel", "refuse", "(ZZZ)Z"⟩ ⟨"PinwheelKernelModel", "refuse", "(ZZZ)Z"⟩ ∈ mw := mw_in (List.mem_append_left _ (List.mem_map.mpr ⟨(⟨"PinwheelKernelModel", "refuse", "(ZZZ)Z"⟩, 25), List.mem_append_right _ (List.mem_append_left _ (List.mem_of_getElem? (i := 13) rfl)), rfl⟩)) rfl
theorem ws_30 : Cond.selects "PinwheelKernelModel" ⟨"PinwheelKernelModel", "copySet", "(I)V"⟩ ⟨"PinwheelKernelModel", "copySet", "(I)V"⟩ ∈ mw := mw_in (List.mem_append_left _ (List.mem_map.mpr ⟨(⟨"PinwheelKernelModel", "copySet", "(I)V"⟩, 25), List.mem_append_right _ (List.mem_append_left _ (List.mem_of_getElem? (i := 14) rfl)), rfl⟩)) rfl
theorem ws_31 : Cond.selects "PinwheelKernelModel" ⟨"PinwheelKernelModel", "build", "()I"⟩ ⟨"PinwheelKernelModel", "build", "()I"⟩ ∈ mw := mw_in (List.mem_append_left _ (List.mem_map.mpr ⟨(⟨"PinwheelKernelModel", "build", "()I"⟩, 25), List.mem_append_right _ (List.mem_append_left _ (List.mem_of_getElem? (i := 15) rfl)), rfl⟩)) rfl
theorem ws_32 : Cond.selects "PinwheelKernelModel" ⟨"PinwheelKernelModel", "lay", "(I)Z"⟩ ⟨"PinwheelKernelModel", "lay", "(I)Z"⟩ ∈ mw := mw_in (List.mem_append_left _ (List.mem_map.mpr ⟨(⟨"PinwheelKernelModel", "lay", "(I)Z"⟩, 25), List.mem_append_right _ (List.mem_append_right _ (List.mem_of_getElem? (i := 0) rfl)), rfl⟩)) rfl
theorem ws_33 : Cond.selects "PinwheelKernelModel" ⟨"PinwheelKernelModel", "arrange", "(I)V"⟩ ⟨"PinwheelKernelModel", "arrange", "(I)V"⟩ ∈ mw := mw_in (List.mem_append_left _ (List.mem_map.mpr ⟨(⟨"PinwheelKernelModel", "arrange", "(I)V"⟩, 25), List.mem_append_right _ (List.mem_append_right _ (List.mem_of_getElem? (i := 1) rfl)), rfl⟩)) rfl
theorem ws_34 : Cond.selects "PinwheelKernelModel" ⟨"PinwheelKernelModel", "byBases", "()Z"⟩ ⟨"PinwheelKernelModel", "byBases", "()Z"⟩ ∈ mw := mw_in (List.mem_append_left _ (List.mem_map.mpr ⟨(⟨"PinwheelKernelModel", "byBases", "()Z"⟩, 25), List.mem_append_right _ (List.mem_append_right _ (List.mem_of_getElem? (i := 2) rfl)), rfl⟩)) rfl
theorem ws_35 : Cond.selects "PinwheelKernelModel" ⟨"PinwheelKernelModel", "leastSpan", "()I"⟩ ⟨"PinwheelKernelModel", "leastSpan", "()I"⟩ ∈ mw := mw_in (List.mem_append_left _ (List.mem_map.mpr ⟨(⟨"PinwheelKernelModel", "leastSpan", "()I"⟩, 25), List.mem_append_right _ (List.mem_append_right _ (List.mem_of_getElem? (i := 3) rfl)), rfl⟩)) rfl
theorem ws_36 : Cond.selects "PinwheelKernelModel" ⟨"PinwheelKernelModel", "byStates", "()Z"⟩ ⟨"PinwheelKernelModel", "byStates", "()Z"⟩ ∈ mw := mw_in (List.mem_append_left _ (List.mem_map.mpr ⟨(⟨"PinwheelKernelModel", "byStates", "()Z"⟩, 25), List.mem_append_right _ (List.mem_append_right _ (List.mem_of_getElem? (i := 4) rfl)), rfl⟩)) rfl
theorem ws_37 : Cond.selects "PinwheelKernelModel" ⟨"PinwheelKernelModel", "product", "()I"⟩ ⟨"PinwheelKernelModel", "product", "()I"⟩ ∈ mw := mw_in (List.mem_append_left _ (List.mem_map.mpr ⟨(⟨"PinwheelKernelModel", "product", "()I"⟩, 25), List.mem_append_right _ (List.mem_append_right _ (List.mem_of_getElem? (i := 5) rfl)), rfl⟩)) rfl
theorem ws_38 : Cond.selects "PinwheelKernelModel" ⟨"PinwheelKernelModel", "isSafe", "(I)Z"⟩ ⟨"PinwheelKernelModel", "isSafe", "(I)Z"⟩ ∈ mw := mw_in (List.mem_append_left _ (List.mem_map.mpr ⟨(⟨"PinwheelKernelModel", "isSafe", "(I)Z"⟩, 25), List.mem_append_right _ (List.mem_append_right _ (List.mem_of_getElem? (i := 6) rfl)), rfl⟩)) rfl
theorem ws_39 : Cond.selects "PinwheelKernelModel" ⟨"PinwheelKernelModel", "good", "(I)I"⟩ ⟨"PinwheelKernelModel", "good", "(I)I"⟩ ∈ mw := mw_in (List.mem_append_left _ (List.mem_map.mpr ⟨(⟨"PinwheelKernelModel", "good", "(I)I"⟩, 25), List.mem_append_right _ (List.mem_append_right _ (List.mem_of_getElem? (i := 7) rfl)), rfl⟩)) rfl
theorem ws_40 : Cond.selects "PinwheelKernelModel" ⟨"PinwheelKernelModel", "after", "(II)I"⟩ ⟨"PinwheelKernelModel", "after", "(II)I"⟩ ∈ mw := mw_in (List.mem_append_left _ (List.mem_map.mpr ⟨(⟨"PinwheelKernelModel", "after", "(II)I"⟩, 25), List.mem_append_right _ (List.mem_append_right _ (List.mem_of_getElem? (i := 8) rfl)), rfl⟩)) rfl
theorem ws_41 : Cond.selects "PinwheelKernelModel" ⟨"PinwheelKernelModel", "open", "(I)V"⟩ ⟨"PinwheelKernelModel", "open", "(I)V"⟩ ∈ mw := mw_in (List.mem_append_left _ (List.mem_map.mpr ⟨(⟨"PinwheelKernelModel", "open", "(I)V"⟩, 25), List.mem_append_right _ (List.mem_append_right _ (List.mem_of_getElem? (i := 9) rfl)), rfl⟩)) rfl
theorem ws_42 : Cond.selects "PinwheelKernelModel" ⟨"PinwheelKernelModel", "lookForSeam", "()V"⟩ ⟨"PinwheelKernelModel", "lookForSeam", "()V"⟩ ∈ mw := mw_in (List.mem_append_left _ (List.mem_map.mpr ⟨(⟨"PinwheelKernelModel", "lookForSeam", "()V"⟩, 25), List.mem_append_right _ (List.mem_append_right _ (List.mem_of_getElem? (i := 10) rfl)), rfl⟩)) rfl
theorem ws_43 : Cond.selects "PinwheelKernelModel" ⟨"PinwheelKernelModel", "isSeam", "(I)Z"⟩ ⟨"PinwheelKernelModel", "isSeam", "(I)Z"⟩ ∈ mw := mw_in (List.mem_append_left _ (List.mem_map.mpr ⟨(⟨"PinwheelKernelModel", "isSeam", "(I)Z"⟩, 25), List.mem_append_right _ (List.mem_append_right _ (List.mem_of_getElem? (i := 11) rfl)), rfl⟩)) rfl
theorem ws_44 : Cond.selects "PinwheelKernelModel" ⟨"PinwheelKernelModel", "takeOver", "(I)V"⟩ ⟨"PinwheelKernelModel", "takeOver", "(I)V"⟩ ∈ mw := mw_in (List.mem_append_left _ (List.mem_map.mpr ⟨(⟨"PinwheelKernelModel", "takeOver", "(I)V"⟩, 25), List.mem_append_right _ (List.mem_append_right _ (List.mem_of_getElem? (i := 12) rfl)), rfl⟩)) rfl
end
section
abbrev R_Cl : String := "PinwheelKernel$Clients"
def T_Cl : u_T := fun k => match k with
  | 0 => ("PinwheelKernel$Clients", "ids", "[I", true)
  | 1 => ("PinwheelKernel$Clients", "spans", "[I", true)
  | 2 => ("PinwheelKernel$Clients", "waits", "[I", true)
  | 3 => ("PinwheelKernel$Clients", "worsts", "[I", true)
  | _ => ("PinwheelKernel$Clients", "count", "I", false)
def t_Cl : Nat → FieldType := fun k => match k with
  | 0 => .array .int
  | 1 => .array .int
  | 2 => .array .int
  | 3 => .array .int
  | _ => .int
theorem n_Cl : ∀ a, a < 5 → ∀ b, b < 5 → a ≠ b → (T_Cl a).2.1 ≠ (T_Cl b).2.1 := by decide +kernel
theorem t_Cl_ok : ∀ k, k < 5 → parseFieldDescriptor (T_Cl k).2.2.1 = some (t_Cl k) := by decide +kernel
theorem u_Cl : ∀ w ∈ u_ws R_Cl T_Cl 5, w ∈ mw := by
  intro w h
  obtain ⟨k, hk, rfl⟩ := List.mem_map.mp h
  have hk := List.mem_range.mp hk
  exact match k, hk with
    | 0, _ => wd_57
    | 1, _ => wd_59
    | 2, _ => wd_61
    | 3, _ => wd_63
    | 4, _ => wd_65
    | n + 5, h => absurd h (by omega)
abbrev R_Cy : String := "PinwheelKernel$Cycle"
def T_Cy : u_T := fun k => match k with
  | 0 => ("PinwheelKernel$Cycle", "places", "[I", false)
  | 1 => ("PinwheelKernel$Cycle", "length", "I", false)
  | _ => ("PinwheelKernel$Cycle", "builder", "I", false)
def t_Cy : Nat → FieldType := fun k => match k with
  | 0 => .array .int
  | 1 => .int
  | _ => .int
theorem n_Cy : ∀ a, a < 3 → ∀ b, b < 3 → a ≠ b → (T_Cy a).2.1 ≠ (T_Cy b).2.1 := by decide +kernel
theorem t_Cy_ok : ∀ k, k < 3 → parseFieldDescriptor (T_Cy k).2.2.1 = some (t_Cy k) := by decide +kernel
theorem u_Cy : ∀ w ∈ u_ws R_Cy T_Cy 3, w ∈ mw := by
  intro w h
  obtain ⟨k, hk, rfl⟩ := List.mem_map.mp h
  have hk := List.mem_range.mp hk
  exact match k, hk with
    | 0, _ => wd_77
    | 1, _ => wd_79
    | 2, _ => wd_81
    | n + 3, h => absurd h (by omega)
abbrev R_Rb : String := "PinwheelKernel$RoundingBuilder"
def T_Rb : u_T := fun k => match k with
  | _ => ("PinwheelKernel$RoundingBuilder", "rounded", "[I", true)
def t_Rb : Nat → FieldType := fun k => match k with
  | _ => .array .int
theorem n_Rb : ∀ a, a < 1 → ∀ b, b < 1 → a ≠ b → (T_Rb a).2.1 ≠ (T_Rb b).2.1 := by decide +kernel
theorem t_Rb_ok : ∀ k, k < 1 → parseFieldDescriptor (T_Rb k).2.2.1 = some (t_Rb k) := by decide +kernel
theorem u_Rb : ∀ w ∈ u_ws R_Rb T_Rb 1, w ∈ mw := by
  intro w h
  obtain ⟨k, hk, rfl⟩ := List.mem_map.mp h
  have hk := List.mem_range.mp hk
  exact match k, hk with
    | 0, _ => wd_42
    | n + 1, h => absurd h (by omega)
abbrev R_Sb : String := "PinwheelKernel$StateBuilder"
def T_Sb : u_T := fun k => match k with
  | 0 => ("PinwheelKernel$StateBuilder", "ids", "[I", true)
  | 1 => ("PinwheelKernel$StateBuilder", "spans", "[I", true)
  | 2 => ("PinwheelKernel$StateBuilder", "weights", "[I", true)
  | 3 => ("PinwheelKernel$StateBuilder", "count", "I", false)
  | 4 => ("PinwheelKernel$StateBuilder", "stateCount", "I", false)
  | 5 => ("PinwheelKernel$StateBuilder", "allWeights", "I", false)
  | 6 => ("PinwheelKernel$StateBuilder", "waysOn", "[I", true)
  | 7 => ("PinwheelKernel$StateBuilder", s_us, "[I", true)
  | 8 => ("PinwheelKernel$StateBuilder", "unsafeCount", "I", false)
  | 9 => ("PinwheelKernel$StateBuilder", "firstTimes", "[I", true)
  | _ => ("PinwheelKernel$StateBuilder", "served", "[I", true)
def t_Sb : Nat → FieldType := fun k => match k with
  | 0 => .array .int
  | 1 => .array .int
  | 2 => .array .int
  | 3 => .int
  | 4 => .int
  | 5 => .int
  | 6 => .array .int
  | 7 => .array .int
  | 8 => .int
  | 9 => .array .int
  | _ => .array .int
theorem n_Sb : ∀ a, a < 11 → ∀ b, b < 11 → a ≠ b → (T_Sb a).2.1 ≠ (T_Sb b).2.1 := by decide +kernel
theorem t_Sb_ok : ∀ k, k < 11 → parseFieldDescriptor (T_Sb k).2.2.1 = some (t_Sb k) := by decide +kernel
theorem u_Sb : ∀ w ∈ u_ws R_Sb T_Sb 11, w ∈ mw := by
  intro w h
  obtain ⟨k, hk, rfl⟩ := List.mem_map.mp h
  have hk := List.mem_range.mp hk
  exact match k, hk with
    | 0, _ => wd_213
    | 1, _ => wd_215
    | 2, _ => wd_217
    | 3, _ => wd_219
    | 4, _ => wd_221
    | 5, _ => wd_223
    | 6, _ => wd_225
    | 7, _ => wd_227
    | 8, _ => wd_229
    | 9, _ => wd_231
    | 10, _ => wd_233
    | n + 11, h => absurd h (by omega)
abbrev R_Pk : String := "PinwheelKernel"
def T_Pk : u_T := fun k => match k with
  | 0 => ("PinwheelKernel", "rounding", "LPinwheelKernel$RoundingBuilder;", true)
  | 1 => ("PinwheelKernel", "states", "LPinwheelKernel$StateBuilder;", false)
  | 2 => ("PinwheelKernel", "present", "LPinwheelKernel$Clients;", false)
  | 3 => ("PinwheelKernel", "planned", "LPinwheelKernel$Clients;", false)
  | 4 => ("PinwheelKernel", "inForce", "LPinwheelKernel$Cycle;", false)
  | 5 => ("PinwheelKernel", "spare", "LPinwheelKernel$Cycle;", false)
  | 6 => ("PinwheelKernel", "spareWaits", "Z", false)
  | 7 => ("PinwheelKernel", "place", "I", false)
  | 8 => ("PinwheelKernel", "wished", "I", false)
  | 9 => ("PinwheelKernel", "vainLooks", "I", false)
  | _ => ("PinwheelKernel", "slots", "I", false)
def t_Pk : Nat → FieldType := fun k => match k with
  | 0 => .object "PinwheelKernel$RoundingBuilder"
  | 1 => .object "PinwheelKernel$StateBuilder"
  | 2 => .object "PinwheelKernel$Clients"
  | 3 => .object "PinwheelKernel$Clients"
  | 4 => .object "PinwheelKernel$Cycle"
  | 5 => .object "PinwheelKernel$Cycle"
  | 6 => .boolean
  | 7 => .int
  | 8 => .int
  | 9 => .int
  | _ => .int
theorem n_Pk : ∀ a, a < 11 → ∀ b, b < 11 → a ≠ b → (T_Pk a).2.1 ≠ (T_Pk b).2.1 := by decide +kernel
theorem t_Pk_ok : ∀ k, k < 11 → parseFieldDescriptor (T_Pk k).2.2.1 = some (t_Pk k) := by decide +kernel
theorem u_Pk : ∀ w ∈ u_ws R_Pk T_Pk 11, w ∈ mw := by
  intro w h
  obtain ⟨k, hk, rfl⟩ := List.mem_map.mp h
  have hk := List.mem_range.mp hk
  exact match k, hk with
    | 0, _ => wd_95
    | 1, _ => wd_97
    | 2, _ => wd_99
    | 3, _ => wd_101
    | 4, _ => wd_103
    | 5, _ => wd_105
    | 6, _ => wd_107
    | 7, _ => wd_109
    | 8, _ => wd_111
    | 9, _ => wd_113
    | 10, _ => wd_115
    | n + 11, h => absurd h (by omega)
abbrev R_Md : String := "PinwheelKernelModel"
def T_Md : u_T := fun k => match k with
  | 0 => ("PinwheelKernelModel", "thrown", "I", false)
  | 1 => ("PinwheelKernelModel", "present", "I", false)
  | 2 => ("PinwheelKernelModel", "ids", "[I", true)
  | 3 => ("PinwheelKernelModel", "spans", "[I", true)
  | 4 => ("PinwheelKernelModel", "waits", "[I", true)
  | 5 => ("PinwheelKernelModel", "worsts", "[I", true)
  | 6 => ("PinwheelKernelModel", "wished", "I", false)
  | 7 => ("PinwheelKernelModel", "builder", "I", false)
  | 8 => ("PinwheelKernelModel", "length", "I", false)
  | 9 => ("PinwheelKernelModel", "cycle", "[I", true)
  | 10 => ("PinwheelKernelModel", "at", "I", false)
  | 11 => ("PinwheelKernelModel", "vain", "I", false)
  | 12 => ("PinwheelKernelModel", "slots", "I", false)
  | 13 => ("PinwheelKernelModel", "coming", "I", false)
  | 14 => ("PinwheelKernelModel", "members", "I", false)
  | 15 => ("PinwheelKernelModel", "newIds", "[I", true)
  | 16 => ("PinwheelKernelModel", "newSpans", "[I", true)
  | 17 => ("PinwheelKernelModel", "newLength", "I", false)
  | 18 => ("PinwheelKernelModel", "newCycle", "[I", true)
  | 19 => ("PinwheelKernelModel", "many", "I", false)
  | 20 => ("PinwheelKernelModel", "row", "[I", true)
  | 21 => ("PinwheelKernelModel", "rounded", "[I", true)
  | 22 => ("PinwheelKernelModel", "safe", "[Z", true)
  | 23 => ("PinwheelKernelModel", "numbers", "[I", true)
  | _ => ("PinwheelKernelModel", "times", "[I", true)
def t_Md : Nat → FieldType := fun k => match k with
  | 0 => .int
  | 1 => .int
  | 2 => .array .int
  | 3 => .array .int
  | 4 => .array .int
  | 5 => .array .int
  | 6 => .int
  | 7 => .int
  | 8 => .int
  | 9 => .array .int
  | 10 => .int
  | 11 => .int
  | 12 => .int
  | 13 => .int
  | 14 => .int
  | 15 => .array .int
  | 16 => .array .int
  | 17 => .int
  | 18 => .array .int
  | 19 => .int
  | 20 => .array .int
  | 21 => .array .int
  | 22 => .array .boolean
  | 23 => .array .int
  | _ => .array .int
theorem n_Md : ∀ a, a < 25 → ∀ b, b < 25 → a ≠ b → (T_Md a).2.1 ≠ (T_Md b).2.1 := by decide +kernel
theorem t_Md_ok : ∀ k, k < 25 → parseFieldDescriptor (T_Md k).2.2.1 = some (t_Md k) := by decide +kernel
theorem u_Md : ∀ w ∈ u_ws R_Md T_Md 25, w ∈ mw := by
  intro w h
  obtain ⟨k, hk, rfl⟩ := List.mem_map.mp h
  have hk := List.mem_range.mp hk
  exact match k, hk with
    | 0, _ => wd_920
    | 1, _ => wd_922
    | 2, _ => wd_924
    | 3, _ => wd_926
    | 4, _ => wd_928
    | 5, _ => wd_930
    | 6, _ => wd_932
    | 7, _ => wd_934
    | 8, _ => wd_936
    | 9, _ => wd_938
    | 10, _ => wd_940
    | 11, _ => wd_942
    | 12, _ => wd_944
    | 13, _ => wd_946
    | 14, _ => wd_948
    | 15, _ => wd_950
    | 16, _ => wd_952
    | 17, _ => wd_954
    | 18, _ => wd_956
    | 19, _ => wd_958
    | 20, _ => wd_960
    | 21, _ => wd_962
    | 22, _ => wd_964
    | 23, _ => wd_966
    | 24, _ => wd_968
    | n + 25, h => absurd h (by omega)
abbrev R_Lw : String := "PinwheelKernelLaw"
abbrev R_Ar : String := "java/util/Arrays"
/-- the kinds of objects: 0 Cl, 1 Cy, 2 Rb, 3 Sb, 4 Pk, 5 Md -/
abbrev kcl : List vw_C := [(R_Cl, T_Cl, 5), (R_Cy, T_Cy, 3), (R_Rb, T_Rb, 1), (R_Sb, T_Sb, 11), (R_Pk, T_Pk, 11), (R_Md, T_Md, 25)]
abbrev b_Pk_init : ByteArray := prog_1_method_1_code
abbrev y_Pk_init : MethodName := ⟨R_Pk, "<init>", "()V"⟩
abbrev b_Rb_init : ByteArray := prog_4_method_1_code
abbrev y_Rb_init : MethodName := ⟨R_Rb, "<init>", "()V"⟩
abbrev b_Cl_init : ByteArray := prog_2_method_1_code
abbrev y_Cl_init : MethodName := ⟨R_Cl, "<init>", "()V"⟩
abbrev b_Cy_init : ByteArray := prog_3_method_1_code
abbrev y_Cy_init : MethodName := ⟨R_Cy, "<init>", "()V"⟩
abbrev b_Pk_slot : ByteArray := prog_1_method_4_code
abbrev y_Pk_slot : MethodName := ⟨R_Pk, "slot", "()I"⟩
abbrev b_Pk_lookForSeam : ByteArray := prog_1_method_17_code
abbrev y_Pk_lookForSeam : MethodName := ⟨R_Pk, "lookForSeam", "()V"⟩
abbrev b_Cl_takeTimesFrom : ByteArray := prog_2_method_12_code
abbrev y_Cl_takeTimesFrom : MethodName := ⟨R_Cl, "takeTimesFrom", "(LPinwheelKernel$Clients;)V"⟩
abbrev b_Cl_find : ByteArray := prog_2_method_7_code
abbrev y_Cl_find : MethodName := ⟨R_Cl, "find", "(I)I"⟩
abbrev b_Cl_copyAt : ByteArray := prog_2_method_14_code
abbrev y_Cl_copyAt : MethodName := ⟨R_Cl, "copyAt", "(ILPinwheelKernel$Clients;I)V"⟩
abbrev b_Cy_seamFor : ByteArray := prog_3_method_10_code
abbrev y_Cy_seamFor : MethodName := ⟨R_Cy, "seamFor", "(LPinwheelKernel$Clients;)I"⟩
abbrev b_Cy_canGoOnFrom : ByteArray := prog_3_method_11_code
abbrev y_Cy_canGoOnFrom : MethodName := ⟨R_Cy, "canGoOnFrom", "(ILPinwheelKernel$Clients;)Z"⟩
abbrev b_Cl_count : ByteArray := prog_2_method_2_code
abbrev y_Cl_count : MethodName := ⟨R_Cl, "count", "()I"⟩
abbrev b_Cl_spanAt : ByteArray := prog_2_method_4_code
abbrev y_Cl_spanAt : MethodName := ⟨R_Cl, "spanAt", "(I)I"⟩
abbrev b_Cl_waitAt : ByteArray := prog_2_method_5_code
abbrev y_Cl_waitAt : MethodName := ⟨R_Cl, "waitAt", "(I)I"⟩
abbrev b_Cl_idAt : ByteArray := prog_2_method_3_code
abbrev y_Cl_idAt : MethodName := ⟨R_Cl, "idAt", "(I)I"⟩
abbrev b_Cy_comesWithin : ByteArray := prog_3_method_12_code
abbrev y_Cy_comesWithin : MethodName := ⟨R_Cy, "comesWithin", "(III)Z"⟩
abbrev b_Cy_placeAfter : ByteArray := prog_3_method_5_code
abbrev y_Cy_placeAfter : MethodName := ⟨R_Cy, "placeAfter", "(I)I"⟩
abbrev b_Pk_goOver : ByteArray := prog_1_method_18_code
abbrev y_Pk_goOver : MethodName := ⟨R_Pk, "goOver", "(I)V"⟩
abbrev b_Cy_idAt : ByteArray := prog_3_method_4_code
abbrev y_Cy_idAt : MethodName := ⟨R_Cy, "idAt", "(I)I"⟩
abbrev b_Cl_passSlot : ByteArray := prog_2_method_13_code
abbrev y_Cl_passSlot : MethodName := ⟨R_Cl, "passSlot", "(I)V"⟩
abbrev b_Pk_feasible : ByteArray := prog_1_method_13_code
abbrev y_Pk_feasible : MethodName := ⟨R_Pk, "feasible", "()I"⟩
abbrev b_Pk_stateBuilder : ByteArray := prog_1_method_19_code
abbrev y_Pk_stateBuilder : MethodName := ⟨R_Pk, "stateBuilder", "()LPinwheelKernel$StateBuilder;"⟩
abbrev b_Sb_init : ByteArray := prog_5_method_1_code
abbrev y_Sb_init : MethodName := ⟨R_Sb, "<init>", "()V"⟩
abbrev b_Sb_takes : ByteArray := prog_5_method_3_code
abbrev y_Sb_takes : MethodName := ⟨R_Sb, "takes", "(LPinwheelKernel$Clients;)Z"⟩
abbrev b_Sb_takeInOrder : ByteArray := prog_5_method_5_code
abbrev y_Sb_takeInOrder : MethodName := ⟨R_Sb, "takeInOrder", "(LPinwheelKernel$Clients;)V"⟩
abbrev b_Sb_weigh : ByteArray := prog_5_method_6_code
abbrev y_Sb_weigh : MethodName := ⟨R_Sb, "weigh", "()V"⟩
abbrev b_Sb_startsSafe : ByteArray := prog_5_method_4_code
abbrev y_Sb_startsSafe : MethodName := ⟨R_Sb, "startsSafe", "()Z"⟩
abbrev b_Sb_listDeadEnds : ByteArray := prog_5_method_7_code
abbrev y_Sb_listDeadEnds : MethodName := ⟨R_Sb, "listDeadEnds", "()V"⟩
abbrev b_Sb_countWaysOn : ByteArray := prog_5_method_8_code
abbrev y_Sb_countWaysOn : MethodName := ⟨R_Sb, "countWaysOn", "(I)I"⟩
abbrev b_Sb_digit : ByteArray := prog_5_method_16_code
abbrev y_Sb_digit : MethodName := ⟨R_Sb, "digit", "(II)I"⟩
abbrev b_Sb_strikeWaysTo : ByteArray := prog_5_method_9_code
abbrev y_Sb_strikeWaysTo : MethodName := ⟨R_Sb, "strikeWaysTo", "(I)V"⟩
abbrev b_Sb_canComeFrom : ByteArray := prog_5_method_12_code
abbrev y_Sb_canComeFrom : MethodName := ⟨R_Sb, "canComeFrom", "(II)Z"⟩
abbrev b_Sb_strikeOneWay : ByteArray := prog_5_method_10_code
abbrev y_Sb_strikeOneWay : MethodName := ⟨R_Sb, "strikeOneWay", "(I)V"⟩
abbrev b_Lw_ask : ByteArray := method_3_code
abbrev y_Lw_ask : MethodName := ⟨R_Lw, "ask", "(LPinwheelKernel;II[J)I"⟩
abbrev b_Pk_ask : ByteArray := prog_1_method_2_code
abbrev y_Pk_ask : MethodName := ⟨R_Pk, "ask", "(II)I"⟩
abbrev b_Cl_copyFrom : ByteArray := prog_2_method_9_code
abbrev y_Cl_copyFrom : MethodName := ⟨R_Cl, "copyFrom", "(LPinwheelKernel$Clients;)V"⟩
abbrev b_Cl_insert : ByteArray := prog_2_method_10_code
abbrev y_Cl_insert : MethodName := ⟨R_Cl, "insert", "(II)V"⟩
abbrev b_Pk_layPlanned : ByteArray := prog_1_method_15_code
abbrev y_Pk_layPlanned : MethodName := ⟨R_Pk, "layPlanned", "()I"⟩
abbrev b_Rb_layByPowers : ByteArray := prog_4_method_2_code
abbrev y_Rb_layByPowers : MethodName := ⟨R_Rb, "layByPowers", "(LPinwheelKernel$Clients;LPinwheelKernel$Cycle;)Z"⟩
abbrev b_Rb_layWithBase : ByteArray := prog_4_method_4_code
abbrev y_Rb_layWithBase : MethodName := ⟨R_Rb, "layWithBase", "(ILPinwheelKernel$Clients;LPinwheelKernel$Cycle;)Z"⟩
abbrev b_Rb_roundAll : ByteArray := prog_4_method_5_code
abbrev y_Rb_roundAll : MethodName := ⟨R_Rb, "roundAll", "(ILPinwheelKernel$Clients;)I"⟩
abbrev b_Rb_roundDown : ByteArray := prog_4_method_8_code
abbrev y_Rb_roundDown : MethodName := ⟨R_Rb, "roundDown", "(II)I"⟩
abbrev b_Rb_placesNeeded : ByteArray := prog_4_method_6_code
abbrev y_Rb_placesNeeded : MethodName := ⟨R_Rb, "placesNeeded", "(II)I"⟩
abbrev b_Cy_clear : ByteArray := prog_3_method_7_code
abbrev y_Cy_clear : MethodName := ⟨R_Cy, "clear", "(I)V"⟩
abbrev b_Cy_makeRoom : ByteArray := prog_3_method_14_code
abbrev y_Cy_makeRoom : MethodName := ⟨R_Cy, "makeRoom", "(I)V"⟩
abbrev b_Ar_fill : ByteArray := prog_25_method_104_code
abbrev y_Ar_fill : MethodName := ⟨R_Ar, "fill", "([IIII)V"⟩
abbrev b_Ar_rangeCheck : ByteArray := prog_25_method_30_code
abbrev y_Ar_rangeCheck : MethodName := ⟨R_Ar, "rangeCheck", "(III)V"⟩
abbrev b_Rb_giveToAllWith : ByteArray := prog_4_method_7_code
abbrev y_Rb_giveToAllWith : MethodName := ⟨R_Rb, "giveToAllWith", "(ILPinwheelKernel$Clients;LPinwheelKernel$Cycle;)V"⟩
abbrev b_Cy_giveTo : ByteArray := prog_3_method_9_code
abbrev y_Cy_giveTo : MethodName := ⟨R_Cy, "giveTo", "(II)V"⟩
abbrev b_Cy_firstFree : ByteArray := prog_3_method_13_code
abbrev y_Cy_firstFree : MethodName := ⟨R_Cy, "firstFree", "()I"⟩
abbrev b_Rb_layByBases : ByteArray := prog_4_method_3_code
abbrev y_Rb_layByBases : MethodName := ⟨R_Rb, "layByBases", "(LPinwheelKernel$Clients;LPinwheelKernel$Cycle;)Z"⟩
abbrev b_Cl_leastSpan : ByteArray := prog_2_method_8_code
abbrev y_Cl_leastSpan : MethodName := ⟨R_Cl, "leastSpan", "()I"⟩
abbrev b_Sb_lay : ByteArray := prog_5_method_2_code
abbrev y_Sb_lay : MethodName := ⟨R_Sb, "lay", "(LPinwheelKernel$Clients;LPinwheelKernel$Cycle;)Z"⟩
abbrev b_Sb_firstSafeTurn : ByteArray := prog_5_method_14_code
abbrev y_Sb_firstSafeTurn : MethodName := ⟨R_Sb, "firstSafeTurn", "(I)I"⟩
abbrev b_Sb_leadsToSafe : ByteArray := prog_5_method_15_code
abbrev y_Sb_leadsToSafe : MethodName := ⟨R_Sb, "leadsToSafe", "(II)Z"⟩
abbrev b_Sb_canServe : ByteArray := prog_5_method_11_code
abbrev y_Sb_canServe : MethodName := ⟨R_Sb, "canServe", "(II)Z"⟩
abbrev b_Sb_stateAfter : ByteArray := prog_5_method_13_code
abbrev y_Sb_stateAfter : MethodName := ⟨R_Sb, "stateAfter", "(II)I"⟩
abbrev b_Cy_copyFrom : ByteArray := prog_3_method_8_code
abbrev y_Cy_copyFrom : MethodName := ⟨R_Cy, "copyFrom", "([III)V"⟩
abbrev b_Pk_letWait : ByteArray := prog_1_method_16_code
abbrev y_Pk_letWait : MethodName := ⟨R_Pk, "letWait", "(I)I"⟩
abbrev b_Cy_setBuilder : ByteArray := prog_3_method_6_code
abbrev y_Cy_setBuilder : MethodName := ⟨R_Cy, "setBuilder", "(I)V"⟩
abbrev b_Lw_drop : ByteArray := method_4_code
abbrev y_Lw_drop : MethodName := ⟨R_Lw, "drop", "(LPinwheelKernel;I[J)I"⟩
abbrev b_Pk_drop : ByteArray := prog_1_method_3_code
abbrev y_Pk_drop : MethodName := ⟨R_Pk, "drop", "(I)I"⟩
abbrev b_Pk_indexOf : ByteArray := prog_1_method_14_code
abbrev y_Pk_indexOf : MethodName := ⟨R_Pk, "indexOf", "(I)I"⟩
abbrev b_Cl_removeAt : ByteArray := prog_2_method_11_code
abbrev y_Cl_removeAt : MethodName := ⟨R_Cl, "removeAt", "(I)V"⟩
abbrev b_Lw_wish : ByteArray := method_5_code
abbrev y_Lw_wish : MethodName := ⟨R_Lw, "wish", "(LPinwheelKernel;I)I"⟩
abbrev b_Pk_wish : ByteArray := prog_1_method_5_code
abbrev y_Pk_wish : MethodName := ⟨R_Pk, "wish", "(I)V"⟩
abbrev b_Lw_waited : ByteArray := method_6_code
abbrev y_Lw_waited : MethodName := ⟨R_Lw, "waited", "(LPinwheelKernel;I[J)I"⟩
abbrev b_Pk_waited : ByteArray := prog_1_method_6_code
abbrev y_Pk_waited : MethodName := ⟨R_Pk, "waited", "(I)I"⟩
abbrev b_Lw_worst : ByteArray := method_7_code
abbrev y_Lw_worst : MethodName := ⟨R_Lw, "worst", "(LPinwheelKernel;I[J)I"⟩
abbrev b_Pk_worst : ByteArray := prog_1_method_7_code
abbrev y_Pk_worst : MethodName := ⟨R_Pk, "worst", "(I)I"⟩
abbrev b_Cl_worstAt : ByteArray := prog_2_method_6_code
abbrev y_Cl_worstAt : MethodName := ⟨R_Cl, "worstAt", "(I)I"⟩
abbrev b_Lw_span : ByteArray := method_8_code
abbrev y_Lw_span : MethodName := ⟨R_Lw, "span", "(LPinwheelKernel;I[J)I"⟩
abbrev b_Pk_span : ByteArray := prog_1_method_8_code
abbrev y_Pk_span : MethodName := ⟨R_Pk, "span", "(I)I"⟩
abbrev b_Lw_cycle : ByteArray := method_9_code
abbrev y_Lw_cycle : MethodName := ⟨R_Lw, "cycle", "(LPinwheelKernel;ZI[J)I"⟩
abbrev b_Pk_cycle : ByteArray := prog_1_method_9_code
abbrev y_Pk_cycle : MethodName := ⟨R_Pk, "cycle", "(ZI)I"⟩
abbrev b_Cy_length : ByteArray := prog_3_method_2_code
abbrev y_Cy_length : MethodName := ⟨R_Cy, "length", "()I"⟩
abbrev b_Lw_about : ByteArray := method_10_code
abbrev y_Lw_about : MethodName := ⟨R_Lw, "about", "(LPinwheelKernel;I[J)I"⟩
abbrev b_Pk_about : ByteArray := prog_1_method_10_code
abbrev y_Pk_about : MethodName := ⟨R_Pk, "about", "(I)I"⟩
abbrev b_Cy_builder : ByteArray := prog_3_method_3_code
abbrev y_Cy_builder : MethodName := ⟨R_Cy, "builder", "()I"⟩
abbrev b_Lw_client : ByteArray := method_11_code
abbrev y_Lw_client : MethodName := ⟨R_Lw, "client", "(LPinwheelKernel;I[J)I"⟩
abbrev b_Pk_client : ByteArray := prog_1_method_11_code
abbrev y_Pk_client : MethodName := ⟨R_Pk, "client", "(I)I"⟩
abbrev b_Lw_density : ByteArray := method_12_code
abbrev y_Lw_density : MethodName := ⟨R_Lw, "density", "(LPinwheelKernel;I[J)I"⟩
abbrev b_Pk_density : ByteArray := prog_1_method_12_code
abbrev y_Pk_density : MethodName := ⟨R_Pk, "density", "(I)J"⟩
abbrev b_Pk_commonDivisor : ByteArray := prog_1_method_20_code
abbrev y_Pk_commonDivisor : MethodName := ⟨R_Pk, "commonDivisor", "(JJ)J"⟩
abbrev b_Md_init : ByteArray := prog_7_method_1_code
abbrev y_Md_init : MethodName := ⟨R_Md, "<init>", "()V"⟩
abbrev b_Md_thrown : ByteArray := prog_7_method_2_code
abbrev y_Md_thrown : MethodName := ⟨R_Md, "thrown", "()I"⟩
abbrev b_Md_ask : ByteArray := prog_7_method_19_code
abbrev y_Md_ask : MethodName := ⟨R_Md, "ask", "(II)I"⟩
abbrev b_Md_in : ByteArray := prog_7_method_4_code
abbrev y_Md_in : MethodName := ⟨R_Md, "in", "(III)Z"⟩
abbrev b_Md_find : ByteArray := prog_7_method_5_code
abbrev y_Md_find : MethodName := ⟨R_Md, "find", "(I)I"⟩
abbrev b_Md_refuse : ByteArray := prog_7_method_3_code
abbrev y_Md_refuse : MethodName := ⟨R_Md, "refuse", "(ZZZ)Z"⟩
abbrev b_Md_copySet : ByteArray := prog_7_method_18_code
abbrev y_Md_copySet : MethodName := ⟨R_Md, "copySet", "(I)V"⟩
abbrev b_Md_build : ByteArray := prog_7_method_17_code
abbrev y_Md_build : MethodName := ⟨R_Md, "build", "()I"⟩
abbrev b_Md_lay : ByteArray := prog_7_method_9_code
abbrev y_Md_lay : MethodName := ⟨R_Md, "lay", "(I)Z"⟩
abbrev b_Md_arrange : ByteArray := prog_7_method_7_code
abbrev y_Md_arrange : MethodName := ⟨R_Md, "arrange", "(I)V"⟩
abbrev b_Md_round : ByteArray := prog_7_method_6_code
abbrev y_Md_round : MethodName := ⟨R_Md, "round", "(II)I"⟩
abbrev b_Md_byBases : ByteArray := prog_7_method_10_code
abbrev y_Md_byBases : MethodName := ⟨R_Md, "byBases", "()Z"⟩
abbrev b_Md_leastSpan : ByteArray := prog_7_method_8_code
abbrev y_Md_leastSpan : MethodName := ⟨R_Md, "leastSpan", "()I"⟩
abbrev b_Md_byStates : ByteArray := prog_7_method_16_code
abbrev y_Md_byStates : MethodName := ⟨R_Md, "byStates", "()Z"⟩
abbrev b_Md_product : ByteArray := prog_7_method_11_code
abbrev y_Md_product : MethodName := ⟨R_Md, "product", "()I"⟩
abbrev b_Md_isSafe : ByteArray := prog_7_method_15_code
abbrev y_Md_isSafe : MethodName := ⟨R_Md, "isSafe", "(I)Z"⟩
abbrev b_Md_good : ByteArray := prog_7_method_14_code
abbrev y_Md_good : MethodName := ⟨R_Md, "good", "(I)I"⟩
abbrev b_Md_after : ByteArray := prog_7_method_13_code
abbrev y_Md_after : MethodName := ⟨R_Md, "after", "(II)I"⟩
abbrev b_Md_open : ByteArray := prog_7_method_12_code
abbrev y_Md_open : MethodName := ⟨R_Md, "open", "(I)V"⟩
abbrev b_Md_drop : ByteArray := prog_7_method_20_code
abbrev y_Md_drop : MethodName := ⟨R_Md, "drop", "(I)I"⟩
abbrev b_Md_slot : ByteArray := prog_7_method_24_code
abbrev y_Md_slot : MethodName := ⟨R_Md, "slot", "()I"⟩
abbrev b_Md_lookForSeam : ByteArray := prog_7_method_23_code
abbrev y_Md_lookForSeam : MethodName := ⟨R_Md, "lookForSeam", "()V"⟩
abbrev b_Md_isSeam : ByteArray := prog_7_method_21_code
abbrev y_Md_isSeam : MethodName := ⟨R_Md, "isSeam", "(I)Z"⟩
abbrev b_Md_takeOver : ByteArray := prog_7_method_22_code
abbrev y_Md_takeOver : MethodName := ⟨R_Md, "takeOver", "(I)V"⟩
abbrev b_Md_wish : ByteArray := prog_7_method_25_code
abbrev y_Md_wish : MethodName := ⟨R_Md, "wish", "(I)V"⟩
abbrev b_Md_waited : ByteArray := prog_7_method_26_code
abbrev y_Md_waited : MethodName := ⟨R_Md, "waited", "(I)I"⟩
abbrev b_Md_worst : ByteArray := prog_7_method_27_code
abbrev y_Md_worst : MethodName := ⟨R_Md, "worst", "(I)I"⟩
abbrev b_Md_span : ByteArray := prog_7_method_28_code
abbrev y_Md_span : MethodName := ⟨R_Md, "span", "(I)I"⟩
abbrev b_Md_cycle : ByteArray := prog_7_method_29_code
abbrev y_Md_cycle : MethodName := ⟨R_Md, "cycle", "(ZI)I"⟩
abbrev b_Md_about : ByteArray := prog_7_method_30_code
abbrev y_Md_about : MethodName := ⟨R_Md, "about", "(I)I"⟩
abbrev b_Md_client : ByteArray := prog_7_method_31_code
abbrev y_Md_client : MethodName := ⟨R_Md, "client", "(I)I"⟩
abbrev b_Md_density : ByteArray := prog_7_method_33_code
abbrev y_Md_density : MethodName := ⟨R_Md, "density", "(I)J"⟩
abbrev b_Md_common : ByteArray := prog_7_method_32_code
abbrev y_Md_common : MethodName := ⟨R_Md, "common", "(JJ)J"⟩
abbrev b_Md_feasible : ByteArray := prog_7_method_34_code
abbrev y_Md_feasible : MethodName := ⟨R_Md, "feasible", "()I"⟩
abbrev b_Lw_law : ByteArray := code
abbrev y_Lw_law : MethodName := ⟨R_Lw, "law", "([I)Z"⟩
end
section
theorem d_Pk_init_0 : decode b_Pk_init 0 = .ok (.aload_n 0, 1) := by decide +kernel
theorem d_Pk_init_1 : decode b_Pk_init 1 = .ok (.invokespecial 1, 3) := by decide +kernel
theorem d_Pk_init_4 : decode b_Pk_init 4 = .ok (.aload_n 0, 1) := by decide +kernel
theorem d_Pk_init_5 : decode b_Pk_init 5 = .ok (.new 7, 3) := by decide +kernel
theorem d_Pk_init_8 : decode b_Pk_init 8 = .ok (.dup, 1) := by decide +kernel
theorem d_Pk_init_9 : decode b_Pk_init 9 = .ok (.invokespecial 9, 3) := by decide +kernel
theorem d_Pk_init_12 : decode b_Pk_init 12 = .ok (.putfield 10, 3) := by decide +kernel
theorem d_Pk_init_15 : decode b_Pk_init 15 = .ok (.aload_n 0, 1) := by decide +kernel
theorem d_Pk_init_16 : decode b_Pk_init 16 = .ok (.aconst_null, 1) := by decide +kernel
theorem d_Pk_init_17 : decode b_Pk_init 17 = .ok (.putfield 16, 3) := by decide +kernel
theorem d_Pk_init_20 : decode b_Pk_init 20 = .ok (.aload_n 0, 1) := by decide +kernel
theorem d_Pk_init_21 : decode b_Pk_init 21 = .ok (.new 20, 3) := by decide +kernel
theorem d_Pk_init_24 : decode b_Pk_init 24 = .ok (.dup, 1) := by decide +kernel
theorem d_Pk_init_25 : decode b_Pk_init 25 = .ok (.invokespecial 22, 3) := by decide +kernel
theorem d_Pk_init_28 : decode b_Pk_init 28 = .ok (.putfield 23, 3) := by decide +kernel
theorem d_Pk_init_31 : decode b_Pk_init 31 = .ok (.aload_n 0, 1) := by decide +kernel
theorem d_Pk_init_32 : decode b_Pk_init 32 = .ok (.new 20, 3) := by decide +kernel
theorem d_Pk_init_35 : decode b_Pk_init 35 = .ok (.dup, 1) := by decide +kernel
theorem d_Pk_init_36 : decode b_Pk_init 36 = .ok (.invokespecial 22, 3) := by decide +kernel
theorem d_Pk_init_39 : decode b_Pk_init 39 = .ok (.putfield 27, 3) := by decide +kernel
theorem d_Pk_init_42 : decode b_Pk_init 42 = .ok (.aload_n 0, 1) := by decide +kernel
theorem d_Pk_init_43 : decode b_Pk_init 43 = .ok (.new 30, 3) := by decide +kernel
theorem d_Pk_init_46 : decode b_Pk_init 46 = .ok (.dup, 1) := by decide +kernel
theorem d_Pk_init_47 : decode b_Pk_init 47 = .ok (.invokespecial 32, 3) := by decide +kernel
theorem d_Pk_init_50 : decode b_Pk_init 50 = .ok (.putfield 33, 3) := by decide +kernel
theorem d_Pk_init_53 : decode b_Pk_init 53 = .ok (.aload_n 0, 1) := by decide +kernel
theorem d_Pk_init_54 : decode b_Pk_init 54 = .ok (.new 30, 3) := by decide +kernel
theorem d_Pk_init_57 : decode b_Pk_init 57 = .ok (.dup, 1) := by decide +kernel
theorem d_Pk_init_58 : decode b_Pk_init 58 = .ok (.invokespecial 32, 3) := by decide +kernel
theorem d_Pk_init_61 : decode b_Pk_init 61 = .ok (.putfield 37, 3) := by decide +kernel
theorem d_Pk_init_64 : decode b_Pk_init 64 = .ok (.aload_n 0, 1) := by decide +kernel
theorem d_Pk_init_65 : decode b_Pk_init 65 = .ok (.iconst 0, 1) := by decide +kernel
theorem d_Pk_init_66 : decode b_Pk_init 66 = .ok (.putfield 40, 3) := by decide +kernel
theorem d_Pk_init_69 : decode b_Pk_init 69 = .ok (.aload_n 0, 1) := by decide +kernel
theorem d_Pk_init_70 : decode b_Pk_init 70 = .ok (.iconst 0, 1) := by decide +kernel
theorem d_Pk_init_71 : decode b_Pk_init 71 = .ok (.putfield 44, 3) := by decide +kernel
theorem d_Pk_init_74 : decode b_Pk_init 74 = .ok (.aload_n 0, 1) := by decide +kernel
theorem d_Pk_init_75 : decode b_Pk_init 75 = .ok (.iconst 0, 1) := by decide +kernel
theorem d_Pk_init_76 : decode b_Pk_init 76 = .ok (.putfield 48, 3) := by decide +kernel
theorem d_Pk_init_79 : decode b_Pk_init 79 = .ok (.aload_n 0, 1) := by decide +kernel
theorem d_Pk_init_80 : decode b_Pk_init 80 = .ok (.iconst 0, 1) := by decide +kernel
theorem d_Pk_init_81 : decode b_Pk_init 81 = .ok (.putfield 51, 3) := by decide +kernel
theorem d_Pk_init_84 : decode b_Pk_init 84 = .ok (.aload_n 0, 1) := by decide +kernel
theorem d_Pk_init_85 : decode b_Pk_init 85 = .ok (.iconst 0, 1) := by decide +kernel
theorem d_Pk_init_86 : decode b_Pk_init 86 = .ok (.putfield 54, 3) := by decide +kernel
theorem d_Pk_init_89 : decode b_Pk_init 89 = .ok (.return_, 1) := by decide +kernel
theorem d_Rb_init_0 : decode b_Rb_init 0 = .ok (.aload_n 0, 1) := by decide +kernel
theorem d_Rb_init_1 : decode b_Rb_init 1 = .ok (.invokespecial 3, 3) := by decide +kernel
theorem d_Rb_init_4 : decode b_Rb_init 4 = .ok (.aload_n 0, 1) := by decide +kernel
theorem d_Rb_init_5 : decode b_Rb_init 5 = .ok (.bipush 10, 2) := by decide +kernel
theorem d_Rb_init_7 : decode b_Rb_init 7 = .ok (.newarray .int, 2) := by decide +kernel
theorem d_Rb_init_9 : decode b_Rb_init 9 = .ok (.putfield 9, 3) := by decide +kernel
theorem d_Rb_init_12 : decode b_Rb_init 12 = .ok (.return_, 1) := by decide +kernel
theorem d_Cl_init_0 : decode b_Cl_init 0 = .ok (.aload_n 0, 1) := by decide +kernel
theorem d_Cl_init_1 : decode b_Cl_init 1 = .ok (.invokespecial 3, 3) := by decide +kernel
theorem d_Cl_init_4 : decode b_Cl_init 4 = .ok (.aload_n 0, 1) := by decide +kernel
theorem d_Cl_init_5 : decode b_Cl_init 5 = .ok (.bipush 10, 2) := by decide +kernel
theorem d_Cl_init_7 : decode b_Cl_init 7 = .ok (.newarray .int, 2) := by decide +kernel
theorem d_Cl_init_9 : decode b_Cl_init 9 = .ok (.putfield 9, 3) := by decide +kernel
theorem d_Cl_init_12 : decode b_Cl_init 12 = .ok (.aload_n 0, 1) := by decide +kernel
theorem d_Cl_init_13 : decode b_Cl_init 13 = .ok (.bipush 10, 2) := by decide +kernel
theorem d_Cl_init_15 : decode b_Cl_init 15 = .ok (.newarray .int, 2) := by decide +kernel
theorem d_Cl_init_17 : decode b_Cl_init 17 = .ok (.putfield 15, 3) := by decide +kernel
theorem d_Cl_init_20 : decode b_Cl_init 20 = .ok (.aload_n 0, 1) := by decide +kernel
theorem d_Cl_init_21 : decode b_Cl_init 21 = .ok (.bipush 10, 2) := by decide +kernel
theorem d_Cl_init_23 : decode b_Cl_init 23 = .ok (.newarray .int, 2) := by decide +kernel
theorem d_Cl_init_25 : decode b_Cl_init 25 = .ok (.putfield 18, 3) := by decide +kernel
theorem d_Cl_init_28 : decode b_Cl_init 28 = .ok (.aload_n 0, 1) := by decide +kernel
theorem d_Cl_init_29 : decode b_Cl_init 29 = .ok (.bipush 10, 2) := by decide +kernel
theorem d_Cl_init_31 : decode b_Cl_init 31 = .ok (.newarray .int, 2) := by decide +kernel
theorem d_Cl_init_33 : decode b_Cl_init 33 = .ok (.putfield 21, 3) := by decide +kernel
theorem d_Cl_init_36 : decode b_Cl_init 36 = .ok (.aload_n 0, 1) := by decide +kernel
theorem d_Cl_init_37 : decode b_Cl_init 37 = .ok (.iconst 0, 1) := by decide +kernel
theorem d_Cl_init_38 : decode b_Cl_init 38 = .ok (.putfield 24, 3) := by decide +kernel
theorem d_Cl_init_41 : decode b_Cl_init 41 = .ok (.return_, 1) := by decide +kernel
theorem d_Cy_init_0 : decode b_Cy_init 0 = .ok (.aload_n 0, 1) := by decide +kernel
theorem d_Cy_init_1 : decode b_Cy_init 1 = .ok (.invokespecial 3, 3) := by decide +kernel
theorem d_Cy_init_4 : decode b_Cy_init 4 = .ok (.aload_n 0, 1) := by decide +kernel
theorem d_Cy_init_5 : decode b_Cy_init 5 = .ok (.bipush 40, 2) := by decide +kernel
theorem d_Cy_init_7 : decode b_Cy_init 7 = .ok (.newarray .int, 2) := by decide +kernel
theorem d_Cy_init_9 : decode b_Cy_init 9 = .ok (.putfield 9, 3) := by decide +kernel
theorem d_Cy_init_12 : decode b_Cy_init 12 = .ok (.aload_n 0, 1) := by decide +kernel
theorem d_Cy_init_13 : decode b_Cy_init 13 = .ok (.iconst 1, 1) := by decide +kernel
theorem d_Cy_init_14 : decode b_Cy_init 14 = .ok (.putfield 15, 3) := by decide +kernel
theorem d_Cy_init_17 : decode b_Cy_init 17 = .ok (.aload_n 0, 1) := by decide +kernel
theorem d_Cy_init_18 : decode b_Cy_init 18 = .ok (.iconst 0, 1) := by decide +kernel
theorem d_Cy_init_19 : decode b_Cy_init 19 = .ok (.putfield 19, 3) := by decide +kernel
theorem d_Cy_init_22 : decode b_Cy_init 22 = .ok (.return_, 1) := by decide +kernel
theorem d_Pk_slot_0 : decode b_Pk_slot 0 = .ok (.aload_n 0, 1) := by decide +kernel
theorem d_Pk_slot_1 : decode b_Pk_slot 1 = .ok (.getfield 40, 3) := by decide +kernel
theorem d_Pk_slot_4 : decode b_Pk_slot 4 = .ok (.ifCond .eq 7, 3) := by decide +kernel
theorem d_Pk_slot_7 : decode b_Pk_slot 7 = .ok (.aload_n 0, 1) := by decide +kernel
theorem d_Pk_slot_8 : decode b_Pk_slot 8 = .ok (.invokevirtual 95, 3) := by decide +kernel
theorem d_Pk_slot_11 : decode b_Pk_slot 11 = .ok (.aload_n 0, 1) := by decide +kernel
theorem d_Pk_slot_12 : decode b_Pk_slot 12 = .ok (.getfield 33, 3) := by decide +kernel
theorem d_Pk_slot_15 : decode b_Pk_slot 15 = .ok (.aload_n 0, 1) := by decide +kernel
theorem d_Pk_slot_16 : decode b_Pk_slot 16 = .ok (.getfield 44, 3) := by decide +kernel
theorem d_Pk_slot_19 : decode b_Pk_slot 19 = .ok (.invokevirtual 98, 3) := by decide +kernel
theorem d_Pk_slot_22 : decode b_Pk_slot 22 = .ok (.istore_n 1, 1) := by decide +kernel
theorem d_Pk_slot_23 : decode b_Pk_slot 23 = .ok (.iload_n 1, 1) := by decide +kernel
theorem d_Pk_slot_24 : decode b_Pk_slot 24 = .ok (.ifCond .ne 13, 3) := by decide +kernel
theorem d_Pk_slot_27 : decode b_Pk_slot 27 = .ok (.aload_n 0, 1) := by decide +kernel
theorem d_Pk_slot_28 : decode b_Pk_slot 28 = .ok (.getfield 48, 3) := by decide +kernel
theorem d_Pk_slot_31 : decode b_Pk_slot 31 = .ok (.istore_n 1, 1) := by decide +kernel
theorem d_Pk_slot_32 : decode b_Pk_slot 32 = .ok (.aload_n 0, 1) := by decide +kernel
theorem d_Pk_slot_33 : decode b_Pk_slot 33 = .ok (.iconst 0, 1) := by decide +kernel
theorem d_Pk_slot_34 : decode b_Pk_slot 34 = .ok (.putfield 48, 3) := by decide +kernel
theorem d_Pk_slot_37 : decode b_Pk_slot 37 = .ok (.aload_n 0, 1) := by decide +kernel
theorem d_Pk_slot_38 : decode b_Pk_slot 38 = .ok (.getfield 23, 3) := by decide +kernel
theorem d_Pk_slot_41 : decode b_Pk_slot 41 = .ok (.iload_n 1, 1) := by decide +kernel
theorem d_Pk_slot_42 : decode b_Pk_slot 42 = .ok (.invokevirtual 101, 3) := by decide +kernel
theorem d_Pk_slot_45 : decode b_Pk_slot 45 = .ok (.aload_n 0, 1) := by decide +kernel
theorem d_Pk_slot_46 : decode b_Pk_slot 46 = .ok (.aload_n 0, 1) := by decide +kernel
theorem d_Pk_slot_47 : decode b_Pk_slot 47 = .ok (.getfield 33, 3) := by decide +kernel
theorem d_Pk_slot_50 : decode b_Pk_slot 50 = .ok (.aload_n 0, 1) := by decide +kernel
theorem d_Pk_slot_51 : decode b_Pk_slot 51 = .ok (.getfield 44, 3) := by decide +kernel
theorem d_Pk_slot_54 : decode b_Pk_slot 54 = .ok (.invokevirtual 104, 3) := by decide +kernel
theorem d_Pk_slot_57 : decode b_Pk_slot 57 = .ok (.putfield 44, 3) := by decide +kernel
theorem d_Pk_slot_60 : decode b_Pk_slot 60 = .ok (.aload_n 0, 1) := by decide +kernel
theorem d_Pk_slot_61 : decode b_Pk_slot 61 = .ok (.dup, 1) := by decide +kernel
theorem d_Pk_slot_62 : decode b_Pk_slot 62 = .ok (.getfield 54, 3) := by decide +kernel
theorem d_Pk_slot_65 : decode b_Pk_slot 65 = .ok (.iconst 1, 1) := by decide +kernel
theorem d_Pk_slot_66 : decode b_Pk_slot 66 = .ok (.iadd, 1) := by decide +kernel
theorem d_Pk_slot_67 : decode b_Pk_slot 67 = .ok (.putfield 54, 3) := by decide +kernel
theorem d_Pk_slot_70 : decode b_Pk_slot 70 = .ok (.iload_n 1, 1) := by decide +kernel
theorem d_Pk_slot_71 : decode b_Pk_slot 71 = .ok (.ireturn, 1) := by decide +kernel
theorem d_Pk_lookForSeam_0 : decode b_Pk_lookForSeam 0 = .ok (.aload_n 0, 1) := by decide +kernel
theorem d_Pk_lookForSeam_1 : decode b_Pk_lookForSeam 1 = .ok (.getfield 27, 3) := by decide +kernel
theorem d_Pk_lookForSeam_4 : decode b_Pk_lookForSeam 4 = .ok (.aload_n 0, 1) := by decide +kernel
theorem d_Pk_lookForSeam_5 : decode b_Pk_lookForSeam 5 = .ok (.getfield 23, 3) := by decide +kernel
theorem d_Pk_lookForSeam_8 : decode b_Pk_lookForSeam 8 = .ok (.invokevirtual 160, 3) := by decide +kernel
theorem d_Pk_lookForSeam_11 : decode b_Pk_lookForSeam 11 = .ok (.aload_n 0, 1) := by decide +kernel
theorem d_Pk_lookForSeam_12 : decode b_Pk_lookForSeam 12 = .ok (.getfield 37, 3) := by decide +kernel
theorem d_Pk_lookForSeam_15 : decode b_Pk_lookForSeam 15 = .ok (.aload_n 0, 1) := by decide +kernel
theorem d_Pk_lookForSeam_16 : decode b_Pk_lookForSeam 16 = .ok (.getfield 27, 3) := by decide +kernel
theorem d_Pk_lookForSeam_19 : decode b_Pk_lookForSeam 19 = .ok (.invokevirtual 163, 3) := by decide +kernel
theorem d_Pk_lookForSeam_22 : decode b_Pk_lookForSeam 22 = .ok (.istore_n 1, 1) := by decide +kernel
theorem d_Pk_lookForSeam_23 : decode b_Pk_lookForSeam 23 = .ok (.iload_n 1, 1) := by decide +kernel
theorem d_Pk_lookForSeam_24 : decode b_Pk_lookForSeam 24 = .ok (.iconst (-1), 1) := by decide +kernel
theorem d_Pk_lookForSeam_25 : decode b_Pk_lookForSeam 25 = .ok (.if_icmp .ne 16, 3) := by decide +kernel
theorem d_Pk_lookForSeam_28 : decode b_Pk_lookForSeam 28 = .ok (.aload_n 0, 1) := by decide +kernel
theorem d_Pk_lookForSeam_29 : decode b_Pk_lookForSeam 29 = .ok (.dup, 1) := by decide +kernel
theorem d_Pk_lookForSeam_30 : decode b_Pk_lookForSeam 30 = .ok (.getfield 51, 3) := by decide +kernel
theorem d_Pk_lookForSeam_33 : decode b_Pk_lookForSeam 33 = .ok (.iconst 1, 1) := by decide +kernel
theorem d_Pk_lookForSeam_34 : decode b_Pk_lookForSeam 34 = .ok (.iadd, 1) := by decide +kernel
theorem d_Pk_lookForSeam_35 : decode b_Pk_lookForSeam 35 = .ok (.putfield 51, 3) := by decide +kernel
theorem d_Pk_lookForSeam_38 : decode b_Pk_lookForSeam 38 = .ok (.goto 8, 3) := by decide +kernel
theorem d_Pk_lookForSeam_41 : decode b_Pk_lookForSeam 41 = .ok (.aload_n 0, 1) := by decide +kernel
theorem d_Pk_lookForSeam_42 : decode b_Pk_lookForSeam 42 = .ok (.iload_n 1, 1) := by decide +kernel
theorem d_Pk_lookForSeam_43 : decode b_Pk_lookForSeam 43 = .ok (.invokevirtual 167, 3) := by decide +kernel
theorem d_Pk_lookForSeam_46 : decode b_Pk_lookForSeam 46 = .ok (.return_, 1) := by decide +kernel
theorem d_Cl_takeTimesFrom_0 : decode b_Cl_takeTimesFrom 0 = .ok (.iconst 0, 1) := by decide +kernel
theorem d_Cl_takeTimesFrom_1 : decode b_Cl_takeTimesFrom 1 = .ok (.istore_n 2, 1) := by decide +kernel
theorem d_Cl_takeTimesFrom_2 : decode b_Cl_takeTimesFrom 2 = .ok (.iload_n 2, 1) := by decide +kernel
theorem d_Cl_takeTimesFrom_3 : decode b_Cl_takeTimesFrom 3 = .ok (.aload_n 0, 1) := by decide +kernel
theorem d_Cl_takeTimesFrom_4 : decode b_Cl_takeTimesFrom 4 = .ok (.getfield 24, 3) := by decide +kernel
theorem d_Cl_takeTimesFrom_7 : decode b_Cl_takeTimesFrom 7 = .ok (.if_icmp .ge 32, 3) := by decide +kernel
theorem d_Cl_takeTimesFrom_10 : decode b_Cl_takeTimesFrom 10 = .ok (.aload_n 1, 1) := by decide +kernel
theorem d_Cl_takeTimesFrom_11 : decode b_Cl_takeTimesFrom 11 = .ok (.aload_n 0, 1) := by decide +kernel
theorem d_Cl_takeTimesFrom_12 : decode b_Cl_takeTimesFrom 12 = .ok (.getfield 9, 3) := by decide +kernel
theorem d_Cl_takeTimesFrom_15 : decode b_Cl_takeTimesFrom 15 = .ok (.iload_n 2, 1) := by decide +kernel
theorem d_Cl_takeTimesFrom_16 : decode b_Cl_takeTimesFrom 16 = .ok (.iaload, 1) := by decide +kernel
theorem d_Cl_takeTimesFrom_17 : decode b_Cl_takeTimesFrom 17 = .ok (.invokevirtual 38, 3) := by decide +kernel
theorem d_Cl_takeTimesFrom_20 : decode b_Cl_takeTimesFrom 20 = .ok (.istore_n 3, 1) := by decide +kernel
theorem d_Cl_takeTimesFrom_21 : decode b_Cl_takeTimesFrom 21 = .ok (.iload_n 3, 1) := by decide +kernel
theorem d_Cl_takeTimesFrom_22 : decode b_Cl_takeTimesFrom 22 = .ok (.iconst (-1), 1) := by decide +kernel
theorem d_Cl_takeTimesFrom_23 : decode b_Cl_takeTimesFrom 23 = .ok (.if_icmp .eq 10, 3) := by decide +kernel
theorem d_Cl_takeTimesFrom_26 : decode b_Cl_takeTimesFrom 26 = .ok (.aload_n 0, 1) := by decide +kernel
theorem d_Cl_takeTimesFrom_27 : decode b_Cl_takeTimesFrom 27 = .ok (.iload_n 2, 1) := by decide +kernel
theorem d_Cl_takeTimesFrom_28 : decode b_Cl_takeTimesFrom 28 = .ok (.aload_n 1, 1) := by decide +kernel
theorem d_Cl_takeTimesFrom_29 : decode b_Cl_takeTimesFrom 29 = .ok (.iload_n 3, 1) := by decide +kernel
theorem d_Cl_takeTimesFrom_30 : decode b_Cl_takeTimesFrom 30 = .ok (.invokevirtual 34, 3) := by decide +kernel
theorem d_Cl_takeTimesFrom_33 : decode b_Cl_takeTimesFrom 33 = .ok (.iinc 2 1, 3) := by decide +kernel
theorem d_Cl_takeTimesFrom_36 : decode b_Cl_takeTimesFrom 36 = .ok (.goto (-34), 3) := by decide +kernel
theorem d_Cl_takeTimesFrom_39 : decode b_Cl_takeTimesFrom 39 = .ok (.return_, 1) := by decide +kernel
theorem d_Cl_find_0 : decode b_Cl_find 0 = .ok (.iconst 0, 1) := by decide +kernel
theorem d_Cl_find_1 : decode b_Cl_find 1 = .ok (.istore_n 2, 1) := by decide +kernel
theorem d_Cl_find_2 : decode b_Cl_find 2 = .ok (.iload_n 2, 1) := by decide +kernel
theorem d_Cl_find_3 : decode b_Cl_find 3 = .ok (.aload_n 0, 1) := by decide +kernel
theorem d_Cl_find_4 : decode b_Cl_find 4 = .ok (.getfield 24, 3) := by decide +kernel
theorem d_Cl_find_7 : decode b_Cl_find 7 = .ok (.if_icmp .ge 21, 3) := by decide +kernel
theorem d_Cl_find_10 : decode b_Cl_find 10 = .ok (.aload_n 0, 1) := by decide +kernel
theorem d_Cl_find_11 : decode b_Cl_find 11 = .ok (.getfield 9, 3) := by decide +kernel
theorem d_Cl_find_14 : decode b_Cl_find 14 = .ok (.iload_n 2, 1) := by decide +kernel
theorem d_Cl_find_15 : decode b_Cl_find 15 = .ok (.iaload, 1) := by decide +kernel
theorem d_Cl_find_16 : decode b_Cl_find 16 = .ok (.iload_n 1, 1) := by decide +kernel
theorem d_Cl_find_17 : decode b_Cl_find 17 = .ok (.if_icmp .ne 5, 3) := by decide +kernel
theorem d_Cl_find_20 : decode b_Cl_find 20 = .ok (.iload_n 2, 1) := by decide +kernel
theorem d_Cl_find_21 : decode b_Cl_find 21 = .ok (.ireturn, 1) := by decide +kernel
theorem d_Cl_find_22 : decode b_Cl_find 22 = .ok (.iinc 2 1, 3) := by decide +kernel
theorem d_Cl_find_25 : decode b_Cl_find 25 = .ok (.goto (-23), 3) := by decide +kernel
theorem d_Cl_find_28 : decode b_Cl_find 28 = .ok (.iconst (-1), 1) := by decide +kernel
theorem d_Cl_find_29 : decode b_Cl_find 29 = .ok (.ireturn, 1) := by decide +kernel
theorem d_Cl_copyAt_0 : decode b_Cl_copyAt 0 = .ok (.aload_n 0, 1) := by decide +kernel
theorem d_Cl_copyAt_1 : decode b_Cl_copyAt 1 = .ok (.getfield 9, 3) := by decide +kernel
theorem d_Cl_copyAt_4 : decode b_Cl_copyAt 4 = .ok (.iload_n 1, 1) := by decide +kernel
theorem d_Cl_copyAt_5 : decode b_Cl_copyAt 5 = .ok (.aload_n 2, 1) := by decide +kernel
theorem d_Cl_copyAt_6 : decode b_Cl_copyAt 6 = .ok (.getfield 9, 3) := by decide +kernel
theorem d_Cl_copyAt_9 : decode b_Cl_copyAt 9 = .ok (.iload_n 3, 1) := by decide +kernel
theorem d_Cl_copyAt_10 : decode b_Cl_copyAt 10 = .ok (.iaload, 1) := by decide +kernel
theorem d_Cl_copyAt_11 : decode b_Cl_copyAt 11 = .ok (.iastore, 1) := by decide +kernel
theorem d_Cl_copyAt_12 : decode b_Cl_copyAt 12 = .ok (.aload_n 0, 1) := by decide +kernel
theorem d_Cl_copyAt_13 : decode b_Cl_copyAt 13 = .ok (.getfield 15, 3) := by decide +kernel
theorem d_Cl_copyAt_16 : decode b_Cl_copyAt 16 = .ok (.iload_n 1, 1) := by decide +kernel
theorem d_Cl_copyAt_17 : decode b_Cl_copyAt 17 = .ok (.aload_n 2, 1) := by decide +kernel
theorem d_Cl_copyAt_18 : decode b_Cl_copyAt 18 = .ok (.getfield 15, 3) := by decide +kernel
theorem d_Cl_copyAt_21 : decode b_Cl_copyAt 21 = .ok (.iload_n 3, 1) := by decide +kernel
theorem d_Cl_copyAt_22 : decode b_Cl_copyAt 22 = .ok (.iaload, 1) := by decide +kernel
theorem d_Cl_copyAt_23 : decode b_Cl_copyAt 23 = .ok (.iastore, 1) := by decide +kernel
theorem d_Cl_copyAt_24 : decode b_Cl_copyAt 24 = .ok (.aload_n 0, 1) := by decide +kernel
theorem d_Cl_copyAt_25 : decode b_Cl_copyAt 25 = .ok (.getfield 18, 3) := by decide +kernel
theorem d_Cl_copyAt_28 : decode b_Cl_copyAt 28 = .ok (.iload_n 1, 1) := by decide +kernel
theorem d_Cl_copyAt_29 : decode b_Cl_copyAt 29 = .ok (.aload_n 2, 1) := by decide +kernel
theorem d_Cl_copyAt_30 : decode b_Cl_copyAt 30 = .ok (.getfield 18, 3) := by decide +kernel
theorem d_Cl_copyAt_33 : decode b_Cl_copyAt 33 = .ok (.iload_n 3, 1) := by decide +kernel
theorem d_Cl_copyAt_34 : decode b_Cl_copyAt 34 = .ok (.iaload, 1) := by decide +kernel
theorem d_Cl_copyAt_35 : decode b_Cl_copyAt 35 = .ok (.iastore, 1) := by decide +kernel
theorem d_Cl_copyAt_36 : decode b_Cl_copyAt 36 = .ok (.aload_n 0, 1) := by decide +kernel
theorem d_Cl_copyAt_37 : decode b_Cl_copyAt 37 = .ok (.getfield 21, 3) := by decide +kernel
theorem d_Cl_copyAt_40 : decode b_Cl_copyAt 40 = .ok (.iload_n 1, 1) := by decide +kernel
theorem d_Cl_copyAt_41 : decode b_Cl_copyAt 41 = .ok (.aload_n 2, 1) := by decide +kernel
theorem d_Cl_copyAt_42 : decode b_Cl_copyAt 42 = .ok (.getfield 21, 3) := by decide +kernel
theorem d_Cl_copyAt_45 : decode b_Cl_copyAt 45 = .ok (.iload_n 3, 1) := by decide +kernel
theorem d_Cl_copyAt_46 : decode b_Cl_copyAt 46 = .ok (.iaload, 1) := by decide +kernel
theorem d_Cl_copyAt_47 : decode b_Cl_copyAt 47 = .ok (.iastore, 1) := by decide +kernel
theorem d_Cl_copyAt_48 : decode b_Cl_copyAt 48 = .ok (.return_, 1) := by decide +kernel
theorem d_Cy_seamFor_0 : decode b_Cy_seamFor 0 = .ok (.iconst 0, 1) := by decide +kernel
theorem d_Cy_seamFor_1 : decode b_Cy_seamFor 1 = .ok (.istore_n 2, 1) := by decide +kernel
theorem d_Cy_seamFor_2 : decode b_Cy_seamFor 2 = .ok (.iload_n 2, 1) := by decide +kernel
theorem d_Cy_seamFor_3 : decode b_Cy_seamFor 3 = .ok (.aload_n 0, 1) := by decide +kernel
theorem d_Cy_seamFor_4 : decode b_Cy_seamFor 4 = .ok (.getfield 15, 3) := by decide +kernel
theorem d_Cy_seamFor_7 : decode b_Cy_seamFor 7 = .ok (.if_icmp .ge 20, 3) := by decide +kernel
theorem d_Cy_seamFor_10 : decode b_Cy_seamFor 10 = .ok (.aload_n 0, 1) := by decide +kernel
theorem d_Cy_seamFor_11 : decode b_Cy_seamFor 11 = .ok (.iload_n 2, 1) := by decide +kernel
theorem d_Cy_seamFor_12 : decode b_Cy_seamFor 12 = .ok (.aload_n 1, 1) := by decide +kernel
theorem d_Cy_seamFor_13 : decode b_Cy_seamFor 13 = .ok (.invokevirtual 42, 3) := by decide +kernel
theorem d_Cy_seamFor_16 : decode b_Cy_seamFor 16 = .ok (.ifCond .eq 5, 3) := by decide +kernel
theorem d_Cy_seamFor_19 : decode b_Cy_seamFor 19 = .ok (.iload_n 2, 1) := by decide +kernel
theorem d_Cy_seamFor_20 : decode b_Cy_seamFor 20 = .ok (.ireturn, 1) := by decide +kernel
theorem d_Cy_seamFor_21 : decode b_Cy_seamFor 21 = .ok (.iinc 2 1, 3) := by decide +kernel
theorem d_Cy_seamFor_24 : decode b_Cy_seamFor 24 = .ok (.goto (-22), 3) := by decide +kernel
theorem d_Cy_seamFor_27 : decode b_Cy_seamFor 27 = .ok (.iconst (-1), 1) := by decide +kernel
theorem d_Cy_seamFor_28 : decode b_Cy_seamFor 28 = .ok (.ireturn, 1) := by decide +kernel
theorem d_Cy_canGoOnFrom_0 : decode b_Cy_canGoOnFrom 0 = .ok (.iconst 0, 1) := by decide +kernel
theorem d_Cy_canGoOnFrom_1 : decode b_Cy_canGoOnFrom 1 = .ok (.istore_n 3, 1) := by decide +kernel
theorem d_Cy_canGoOnFrom_2 : decode b_Cy_canGoOnFrom 2 = .ok (.iload_n 3, 1) := by decide +kernel
theorem d_Cy_canGoOnFrom_3 : decode b_Cy_canGoOnFrom 3 = .ok (.aload_n 2, 1) := by decide +kernel
theorem d_Cy_canGoOnFrom_4 : decode b_Cy_canGoOnFrom 4 = .ok (.invokevirtual 46, 3) := by decide +kernel
theorem d_Cy_canGoOnFrom_7 : decode b_Cy_canGoOnFrom 7 = .ok (.if_icmp .ge 35, 3) := by decide +kernel
theorem d_Cy_canGoOnFrom_10 : decode b_Cy_canGoOnFrom 10 = .ok (.aload_n 0, 1) := by decide +kernel
theorem d_Cy_canGoOnFrom_11 : decode b_Cy_canGoOnFrom 11 = .ok (.aload_n 2, 1) := by decide +kernel
theorem d_Cy_canGoOnFrom_12 : decode b_Cy_canGoOnFrom 12 = .ok (.iload_n 3, 1) := by decide +kernel
theorem d_Cy_canGoOnFrom_13 : decode b_Cy_canGoOnFrom 13 = .ok (.invokevirtual 51, 3) := by decide +kernel
theorem d_Cy_canGoOnFrom_16 : decode b_Cy_canGoOnFrom 16 = .ok (.aload_n 2, 1) := by decide +kernel
theorem d_Cy_canGoOnFrom_17 : decode b_Cy_canGoOnFrom 17 = .ok (.iload_n 3, 1) := by decide +kernel
theorem d_Cy_canGoOnFrom_18 : decode b_Cy_canGoOnFrom 18 = .ok (.invokevirtual 55, 3) := by decide +kernel
theorem d_Cy_canGoOnFrom_21 : decode b_Cy_canGoOnFrom 21 = .ok (.isub, 1) := by decide +kernel
theorem d_Cy_canGoOnFrom_22 : decode b_Cy_canGoOnFrom 22 = .ok (.iload_n 1, 1) := by decide +kernel
theorem d_Cy_canGoOnFrom_23 : decode b_Cy_canGoOnFrom 23 = .ok (.aload_n 2, 1) := by decide +kernel
theorem d_Cy_canGoOnFrom_24 : decode b_Cy_canGoOnFrom 24 = .ok (.iload_n 3, 1) := by decide +kernel
theorem d_Cy_canGoOnFrom_25 : decode b_Cy_canGoOnFrom 25 = .ok (.invokevirtual 58, 3) := by decide +kernel
theorem d_Cy_canGoOnFrom_28 : decode b_Cy_canGoOnFrom 28 = .ok (.invokevirtual 61, 3) := by decide +kernel
theorem d_Cy_canGoOnFrom_31 : decode b_Cy_canGoOnFrom 31 = .ok (.ifCond .ne 5, 3) := by decide +kernel
theorem d_Cy_canGoOnFrom_34 : decode b_Cy_canGoOnFrom 34 = .ok (.iconst 0, 1) := by decide +kernel
theorem d_Cy_canGoOnFrom_35 : decode b_Cy_canGoOnFrom 35 = .ok (.ireturn, 1) := by decide +kernel
theorem d_Cy_canGoOnFrom_36 : decode b_Cy_canGoOnFrom 36 = .ok (.iinc 3 1, 3) := by decide +kernel
theorem d_Cy_canGoOnFrom_39 : decode b_Cy_canGoOnFrom 39 = .ok (.goto (-37), 3) := by decide +kernel
theorem d_Cy_canGoOnFrom_42 : decode b_Cy_canGoOnFrom 42 = .ok (.iconst 1, 1) := by decide +kernel
theorem d_Cy_canGoOnFrom_43 : decode b_Cy_canGoOnFrom 43 = .ok (.ireturn, 1) := by decide +kernel
theorem d_Cl_count_0 : decode b_Cl_count 0 = .ok (.aload_n 0, 1) := by decide +kernel
theorem d_Cl_count_1 : decode b_Cl_count 1 = .ok (.getfield 24, 3) := by decide +kernel
theorem d_Cl_count_4 : decode b_Cl_count 4 = .ok (.ireturn, 1) := by decide +kernel
theorem d_Cl_spanAt_0 : decode b_Cl_spanAt 0 = .ok (.aload_n 0, 1) := by decide +kernel
theorem d_Cl_spanAt_1 : decode b_Cl_spanAt 1 = .ok (.getfield 15, 3) := by decide +kernel
theorem d_Cl_spanAt_4 : decode b_Cl_spanAt 4 = .ok (.iload_n 1, 1) := by decide +kernel
theorem d_Cl_spanAt_5 : decode b_Cl_spanAt 5 = .ok (.iaload, 1) := by decide +kernel
theorem d_Cl_spanAt_6 : decode b_Cl_spanAt 6 = .ok (.ireturn, 1) := by decide +kernel
theorem d_Cl_waitAt_0 : decode b_Cl_waitAt 0 = .ok (.aload_n 0, 1) := by decide +kernel
theorem d_Cl_waitAt_1 : decode b_Cl_waitAt 1 = .ok (.getfield 18, 3) := by decide +kernel
theorem d_Cl_waitAt_4 : decode b_Cl_waitAt 4 = .ok (.iload_n 1, 1) := by decide +kernel
theorem d_Cl_waitAt_5 : decode b_Cl_waitAt 5 = .ok (.iaload, 1) := by decide +kernel
theorem d_Cl_waitAt_6 : decode b_Cl_waitAt 6 = .ok (.ireturn, 1) := by decide +kernel
theorem d_Cl_idAt_0 : decode b_Cl_idAt 0 = .ok (.aload_n 0, 1) := by decide +kernel
theorem d_Cl_idAt_1 : decode b_Cl_idAt 1 = .ok (.getfield 9, 3) := by decide +kernel
theorem d_Cl_idAt_4 : decode b_Cl_idAt 4 = .ok (.iload_n 1, 1) := by decide +kernel
theorem d_Cl_idAt_5 : decode b_Cl_idAt 5 = .ok (.iaload, 1) := by decide +kernel
theorem d_Cl_idAt_6 : decode b_Cl_idAt 6 = .ok (.ireturn, 1) := by decide +kernel
theorem d_Cy_comesWithin_0 : decode b_Cy_comesWithin 0 = .ok (.iload_n 2, 1) := by decide +kernel
theorem d_Cy_comesWithin_1 : decode b_Cy_comesWithin 1 = .ok (.istore 4, 2) := by decide +kernel
theorem d_Cy_comesWithin_3 : decode b_Cy_comesWithin 3 = .ok (.iconst 0, 1) := by decide +kernel
theorem d_Cy_comesWithin_4 : decode b_Cy_comesWithin 4 = .ok (.istore 5, 2) := by decide +kernel
theorem d_Cy_comesWithin_6 : decode b_Cy_comesWithin 6 = .ok (.iload 5, 2) := by decide +kernel
theorem d_Cy_comesWithin_8 : decode b_Cy_comesWithin 8 = .ok (.iload_n 1, 1) := by decide +kernel
theorem d_Cy_comesWithin_9 : decode b_Cy_comesWithin 9 = .ok (.if_icmp .ge 30, 3) := by decide +kernel
theorem d_Cy_comesWithin_12 : decode b_Cy_comesWithin 12 = .ok (.aload_n 0, 1) := by decide +kernel
theorem d_Cy_comesWithin_13 : decode b_Cy_comesWithin 13 = .ok (.getfield 9, 3) := by decide +kernel
theorem d_Cy_comesWithin_16 : decode b_Cy_comesWithin 16 = .ok (.iload 4, 2) := by decide +kernel
theorem d_Cy_comesWithin_18 : decode b_Cy_comesWithin 18 = .ok (.iaload, 1) := by decide +kernel
theorem d_Cy_comesWithin_19 : decode b_Cy_comesWithin 19 = .ok (.iload_n 3, 1) := by decide +kernel
theorem d_Cy_comesWithin_20 : decode b_Cy_comesWithin 20 = .ok (.if_icmp .ne 5, 3) := by decide +kernel
theorem d_Cy_comesWithin_23 : decode b_Cy_comesWithin 23 = .ok (.iconst 1, 1) := by decide +kernel
theorem d_Cy_comesWithin_24 : decode b_Cy_comesWithin 24 = .ok (.ireturn, 1) := by decide +kernel
theorem d_Cy_comesWithin_25 : decode b_Cy_comesWithin 25 = .ok (.aload_n 0, 1) := by decide +kernel
theorem d_Cy_comesWithin_26 : decode b_Cy_comesWithin 26 = .ok (.iload 4, 2) := by decide +kernel
theorem d_Cy_comesWithin_28 : decode b_Cy_comesWithin 28 = .ok (.invokevirtual 65, 3) := by decide +kernel
theorem d_Cy_comesWithin_31 : decode b_Cy_comesWithin 31 = .ok (.istore 4, 2) := by decide +kernel
theorem d_Cy_comesWithin_33 : decode b_Cy_comesWithin 33 = .ok (.iinc 5 1, 3) := by decide +kernel
theorem d_Cy_comesWithin_36 : decode b_Cy_comesWithin 36 = .ok (.goto (-30), 3) := by decide +kernel
theorem d_Cy_comesWithin_39 : decode b_Cy_comesWithin 39 = .ok (.iconst 0, 1) := by decide +kernel
theorem d_Cy_comesWithin_40 : decode b_Cy_comesWithin 40 = .ok (.ireturn, 1) := by decide +kernel
theorem d_Cy_placeAfter_0 : decode b_Cy_placeAfter 0 = .ok (.iload_n 1, 1) := by decide +kernel
theorem d_Cy_placeAfter_1 : decode b_Cy_placeAfter 1 = .ok (.iconst 1, 1) := by decide +kernel
theorem d_Cy_placeAfter_2 : decode b_Cy_placeAfter 2 = .ok (.iadd, 1) := by decide +kernel
theorem d_Cy_placeAfter_3 : decode b_Cy_placeAfter 3 = .ok (.aload_n 0, 1) := by decide +kernel
theorem d_Cy_placeAfter_4 : decode b_Cy_placeAfter 4 = .ok (.getfield 15, 3) := by decide +kernel
theorem d_Cy_placeAfter_7 : decode b_Cy_placeAfter 7 = .ok (.if_icmp .ge 9, 3) := by decide +kernel
theorem d_Cy_placeAfter_10 : decode b_Cy_placeAfter 10 = .ok (.iload_n 1, 1) := by decide +kernel
theorem d_Cy_placeAfter_11 : decode b_Cy_placeAfter 11 = .ok (.iconst 1, 1) := by decide +kernel
theorem d_Cy_placeAfter_12 : decode b_Cy_placeAfter 12 = .ok (.iadd, 1) := by decide +kernel
theorem d_Cy_placeAfter_13 : decode b_Cy_placeAfter 13 = .ok (.goto 4, 3) := by decide +kernel
theorem d_Cy_placeAfter_16 : decode b_Cy_placeAfter 16 = .ok (.iconst 0, 1) := by decide +kernel
theorem d_Cy_placeAfter_17 : decode b_Cy_placeAfter 17 = .ok (.ireturn, 1) := by decide +kernel
theorem d_Pk_goOver_0 : decode b_Pk_goOver 0 = .ok (.aload_n 0, 1) := by decide +kernel
theorem d_Pk_goOver_1 : decode b_Pk_goOver 1 = .ok (.getfield 23, 3) := by decide +kernel
theorem d_Pk_goOver_4 : decode b_Pk_goOver 4 = .ok (.astore_n 2, 1) := by decide +kernel
theorem d_Pk_goOver_5 : decode b_Pk_goOver 5 = .ok (.aload_n 0, 1) := by decide +kernel
theorem d_Pk_goOver_6 : decode b_Pk_goOver 6 = .ok (.aload_n 0, 1) := by decide +kernel
theorem d_Pk_goOver_7 : decode b_Pk_goOver 7 = .ok (.getfield 27, 3) := by decide +kernel
theorem d_Pk_goOver_10 : decode b_Pk_goOver 10 = .ok (.putfield 23, 3) := by decide +kernel
theorem d_Pk_goOver_13 : decode b_Pk_goOver 13 = .ok (.aload_n 0, 1) := by decide +kernel
theorem d_Pk_goOver_14 : decode b_Pk_goOver 14 = .ok (.aload_n 2, 1) := by decide +kernel
theorem d_Pk_goOver_15 : decode b_Pk_goOver 15 = .ok (.putfield 27, 3) := by decide +kernel
theorem d_Pk_goOver_18 : decode b_Pk_goOver 18 = .ok (.aload_n 0, 1) := by decide +kernel
theorem d_Pk_goOver_19 : decode b_Pk_goOver 19 = .ok (.getfield 33, 3) := by decide +kernel
theorem d_Pk_goOver_22 : decode b_Pk_goOver 22 = .ok (.astore_n 3, 1) := by decide +kernel
theorem d_Pk_goOver_23 : decode b_Pk_goOver 23 = .ok (.aload_n 0, 1) := by decide +kernel
theorem d_Pk_goOver_24 : decode b_Pk_goOver 24 = .ok (.aload_n 0, 1) := by decide +kernel
theorem d_Pk_goOver_25 : decode b_Pk_goOver 25 = .ok (.getfield 37, 3) := by decide +kernel
theorem d_Pk_goOver_28 : decode b_Pk_goOver 28 = .ok (.putfield 33, 3) := by decide +kernel
theorem d_Pk_goOver_31 : decode b_Pk_goOver 31 = .ok (.aload_n 0, 1) := by decide +kernel
theorem d_Pk_goOver_32 : decode b_Pk_goOver 32 = .ok (.aload_n 3, 1) := by decide +kernel
theorem d_Pk_goOver_33 : decode b_Pk_goOver 33 = .ok (.putfield 37, 3) := by decide +kernel
theorem d_Pk_goOver_36 : decode b_Pk_goOver 36 = .ok (.aload_n 0, 1) := by decide +kernel
theorem d_Pk_goOver_37 : decode b_Pk_goOver 37 = .ok (.iconst 0, 1) := by decide +kernel
theorem d_Pk_goOver_38 : decode b_Pk_goOver 38 = .ok (.putfield 40, 3) := by decide +kernel
theorem d_Pk_goOver_41 : decode b_Pk_goOver 41 = .ok (.aload_n 0, 1) := by decide +kernel
theorem d_Pk_goOver_42 : decode b_Pk_goOver 42 = .ok (.iload_n 1, 1) := by decide +kernel
theorem d_Pk_goOver_43 : decode b_Pk_goOver 43 = .ok (.putfield 44, 3) := by decide +kernel
theorem d_Pk_goOver_46 : decode b_Pk_goOver 46 = .ok (.aload_n 0, 1) := by decide +kernel
theorem d_Pk_goOver_47 : decode b_Pk_goOver 47 = .ok (.getfield 23, 3) := by decide +kernel
theorem d_Pk_goOver_50 : decode b_Pk_goOver 50 = .ok (.aload_n 0, 1) := by decide +kernel
theorem d_Pk_goOver_51 : decode b_Pk_goOver 51 = .ok (.getfield 48, 3) := by decide +kernel
theorem d_Pk_goOver_54 : decode b_Pk_goOver 54 = .ok (.invokevirtual 57, 3) := by decide +kernel
theorem d_Pk_goOver_57 : decode b_Pk_goOver 57 = .ok (.iconst (-1), 1) := by decide +kernel
theorem d_Pk_goOver_58 : decode b_Pk_goOver 58 = .ok (.if_icmp .ne 8, 3) := by decide +kernel
theorem d_Pk_goOver_61 : decode b_Pk_goOver 61 = .ok (.aload_n 0, 1) := by decide +kernel
theorem d_Pk_goOver_62 : decode b_Pk_goOver 62 = .ok (.iconst 0, 1) := by decide +kernel
theorem d_Pk_goOver_63 : decode b_Pk_goOver 63 = .ok (.putfield 48, 3) := by decide +kernel
theorem d_Pk_goOver_66 : decode b_Pk_goOver 66 = .ok (.return_, 1) := by decide +kernel
theorem d_Cy_idAt_0 : decode b_Cy_idAt 0 = .ok (.aload_n 0, 1) := by decide +kernel
theorem d_Cy_idAt_1 : decode b_Cy_idAt 1 = .ok (.getfield 9, 3) := by decide +kernel
theorem d_Cy_idAt_4 : decode b_Cy_idAt 4 = .ok (.iload_n 1, 1) := by decide +kernel
theorem d_Cy_idAt_5 : decode b_Cy_idAt 5 = .ok (.iaload, 1) := by decide +kernel
theorem d_Cy_idAt_6 : decode b_Cy_idAt 6 = .ok (.ireturn, 1) := by decide +kernel
theorem d_Cl_passSlot_0 : decode b_Cl_passSlot 0 = .ok (.iconst 0, 1) := by decide +kernel
theorem d_Cl_passSlot_1 : decode b_Cl_passSlot 1 = .ok (.istore_n 2, 1) := by decide +kernel
theorem d_Cl_passSlot_2 : decode b_Cl_passSlot 2 = .ok (.iload_n 2, 1) := by decide +kernel
theorem d_Cl_passSlot_3 : decode b_Cl_passSlot 3 = .ok (.aload_n 0, 1) := by decide +kernel
theorem d_Cl_passSlot_4 : decode b_Cl_passSlot 4 = .ok (.getfield 24, 3) := by decide +kernel
theorem d_Cl_passSlot_7 : decode b_Cl_passSlot 7 = .ok (.if_icmp .ge 58, 3) := by decide +kernel
theorem d_Cl_passSlot_10 : decode b_Cl_passSlot 10 = .ok (.aload_n 0, 1) := by decide +kernel
theorem d_Cl_passSlot_11 : decode b_Cl_passSlot 11 = .ok (.getfield 18, 3) := by decide +kernel
theorem d_Cl_passSlot_14 : decode b_Cl_passSlot 14 = .ok (.iload_n 2, 1) := by decide +kernel
theorem d_Cl_passSlot_15 : decode b_Cl_passSlot 15 = .ok (.aload_n 0, 1) := by decide +kernel
theorem d_Cl_passSlot_16 : decode b_Cl_passSlot 16 = .ok (.getfield 9, 3) := by decide +kernel
theorem d_Cl_passSlot_19 : decode b_Cl_passSlot 19 = .ok (.iload_n 2, 1) := by decide +kernel
theorem d_Cl_passSlot_20 : decode b_Cl_passSlot 20 = .ok (.iaload, 1) := by decide +kernel
theorem d_Cl_passSlot_21 : decode b_Cl_passSlot 21 = .ok (.iload_n 1, 1) := by decide +kernel
theorem d_Cl_passSlot_22 : decode b_Cl_passSlot 22 = .ok (.if_icmp .ne 7, 3) := by decide +kernel
theorem d_Cl_passSlot_25 : decode b_Cl_passSlot 25 = .ok (.iconst 0, 1) := by decide +kernel
theorem d_Cl_passSlot_26 : decode b_Cl_passSlot 26 = .ok (.goto 11, 3) := by decide +kernel
theorem d_Cl_passSlot_29 : decode b_Cl_passSlot 29 = .ok (.aload_n 0, 1) := by decide +kernel
theorem d_Cl_passSlot_30 : decode b_Cl_passSlot 30 = .ok (.getfield 18, 3) := by decide +kernel
theorem d_Cl_passSlot_33 : decode b_Cl_passSlot 33 = .ok (.iload_n 2, 1) := by decide +kernel
theorem d_Cl_passSlot_34 : decode b_Cl_passSlot 34 = .ok (.iaload, 1) := by decide +kernel
theorem d_Cl_passSlot_35 : decode b_Cl_passSlot 35 = .ok (.iconst 1, 1) := by decide +kernel
theorem d_Cl_passSlot_36 : decode b_Cl_passSlot 36 = .ok (.iadd, 1) := by decide +kernel
theorem d_Cl_passSlot_37 : decode b_Cl_passSlot 37 = .ok (.iastore, 1) := by decide +kernel
theorem d_Cl_passSlot_38 : decode b_Cl_passSlot 38 = .ok (.aload_n 0, 1) := by decide +kernel
theorem d_Cl_passSlot_39 : decode b_Cl_passSlot 39 = .ok (.getfield 21, 3) := by decide +kernel
theorem d_Cl_passSlot_42 : decode b_Cl_passSlot 42 = .ok (.iload_n 2, 1) := by decide +kernel
theorem d_Cl_passSlot_43 : decode b_Cl_passSlot 43 = .ok (.aload_n 0, 1) := by decide +kernel
theorem d_Cl_passSlot_44 : decode b_Cl_passSlot 44 = .ok (.getfield 21, 3) := by decide +kernel
theorem d_Cl_passSlot_47 : decode b_Cl_passSlot 47 = .ok (.iload_n 2, 1) := by decide +kernel
theorem d_Cl_passSlot_48 : decode b_Cl_passSlot 48 = .ok (.iaload, 1) := by decide +kernel
theorem d_Cl_passSlot_49 : decode b_Cl_passSlot 49 = .ok (.aload_n 0, 1) := by decide +kernel
theorem d_Cl_passSlot_50 : decode b_Cl_passSlot 50 = .ok (.getfield 18, 3) := by decide +kernel
theorem d_Cl_passSlot_53 : decode b_Cl_passSlot 53 = .ok (.iload_n 2, 1) := by decide +kernel
theorem d_Cl_passSlot_54 : decode b_Cl_passSlot 54 = .ok (.iaload, 1) := by decide +kernel
theorem d_Cl_passSlot_55 : decode b_Cl_passSlot 55 = .ok (.invokestatic 42, 3) := by decide +kernel
end
section
theorem d_Cl_passSlot_58 : decode b_Cl_passSlot 58 = .ok (.iastore, 1) := by decide +kernel
theorem d_Cl_passSlot_59 : decode b_Cl_passSlot 59 = .ok (.iinc 2 1, 3) := by decide +kernel
theorem d_Cl_passSlot_62 : decode b_Cl_passSlot 62 = .ok (.goto (-60), 3) := by decide +kernel
theorem d_Cl_passSlot_65 : decode b_Cl_passSlot 65 = .ok (.return_, 1) := by decide +kernel
theorem d_Pk_feasible_0 : decode b_Pk_feasible 0 = .ok (.aload_n 0, 1) := by decide +kernel
theorem d_Pk_feasible_1 : decode b_Pk_feasible 1 = .ok (.getfield 23, 3) := by decide +kernel
theorem d_Pk_feasible_4 : decode b_Pk_feasible 4 = .ok (.invokevirtual 67, 3) := by decide +kernel
theorem d_Pk_feasible_7 : decode b_Pk_feasible 7 = .ok (.ifCond .ne 5, 3) := by decide +kernel
theorem d_Pk_feasible_10 : decode b_Pk_feasible 10 = .ok (.iconst 1, 1) := by decide +kernel
theorem d_Pk_feasible_11 : decode b_Pk_feasible 11 = .ok (.ireturn, 1) := by decide +kernel
theorem d_Pk_feasible_12 : decode b_Pk_feasible 12 = .ok (.aload_n 0, 1) := by decide +kernel
theorem d_Pk_feasible_13 : decode b_Pk_feasible 13 = .ok (.invokevirtual 130, 3) := by decide +kernel
theorem d_Pk_feasible_16 : decode b_Pk_feasible 16 = .ok (.astore_n 1, 1) := by decide +kernel
theorem d_Pk_feasible_17 : decode b_Pk_feasible 17 = .ok (.aload_n 1, 1) := by decide +kernel
theorem d_Pk_feasible_18 : decode b_Pk_feasible 18 = .ok (.aload_n 0, 1) := by decide +kernel
theorem d_Pk_feasible_19 : decode b_Pk_feasible 19 = .ok (.getfield 23, 3) := by decide +kernel
theorem d_Pk_feasible_22 : decode b_Pk_feasible 22 = .ok (.invokevirtual 134, 3) := by decide +kernel
theorem d_Pk_feasible_25 : decode b_Pk_feasible 25 = .ok (.ifCond .ne 5, 3) := by decide +kernel
theorem d_Pk_feasible_28 : decode b_Pk_feasible 28 = .ok (.iconst (-1), 1) := by decide +kernel
theorem d_Pk_feasible_29 : decode b_Pk_feasible 29 = .ok (.ireturn, 1) := by decide +kernel
theorem d_Pk_feasible_30 : decode b_Pk_feasible 30 = .ok (.aload_n 1, 1) := by decide +kernel
theorem d_Pk_feasible_31 : decode b_Pk_feasible 31 = .ok (.invokevirtual 140, 3) := by decide +kernel
theorem d_Pk_feasible_34 : decode b_Pk_feasible 34 = .ok (.ifCond .eq 7, 3) := by decide +kernel
theorem d_Pk_feasible_37 : decode b_Pk_feasible 37 = .ok (.iconst 1, 1) := by decide +kernel
theorem d_Pk_feasible_38 : decode b_Pk_feasible 38 = .ok (.goto 4, 3) := by decide +kernel
theorem d_Pk_feasible_41 : decode b_Pk_feasible 41 = .ok (.iconst 0, 1) := by decide +kernel
theorem d_Pk_feasible_42 : decode b_Pk_feasible 42 = .ok (.ireturn, 1) := by decide +kernel
theorem d_Pk_stateBuilder_0 : decode b_Pk_stateBuilder 0 = .ok (.aload_n 0, 1) := by decide +kernel
theorem d_Pk_stateBuilder_1 : decode b_Pk_stateBuilder 1 = .ok (.getfield 16, 3) := by decide +kernel
theorem d_Pk_stateBuilder_4 : decode b_Pk_stateBuilder 4 = .ok (.ifnonnull 14, 3) := by decide +kernel
theorem d_Pk_stateBuilder_7 : decode b_Pk_stateBuilder 7 = .ok (.aload_n 0, 1) := by decide +kernel
theorem d_Pk_stateBuilder_8 : decode b_Pk_stateBuilder 8 = .ok (.new 135, 3) := by decide +kernel
theorem d_Pk_stateBuilder_11 : decode b_Pk_stateBuilder 11 = .ok (.dup, 1) := by decide +kernel
theorem d_Pk_stateBuilder_12 : decode b_Pk_stateBuilder 12 = .ok (.invokespecial 170, 3) := by decide +kernel
theorem d_Pk_stateBuilder_15 : decode b_Pk_stateBuilder 15 = .ok (.putfield 16, 3) := by decide +kernel
theorem d_Pk_stateBuilder_18 : decode b_Pk_stateBuilder 18 = .ok (.aload_n 0, 1) := by decide +kernel
theorem d_Pk_stateBuilder_19 : decode b_Pk_stateBuilder 19 = .ok (.getfield 16, 3) := by decide +kernel
theorem d_Pk_stateBuilder_22 : decode b_Pk_stateBuilder 22 = .ok (.areturn, 1) := by decide +kernel
theorem d_Sb_init_0 : decode b_Sb_init 0 = .ok (.aload_n 0, 1) := by decide +kernel
theorem d_Sb_init_1 : decode b_Sb_init 1 = .ok (.invokespecial 3, 3) := by decide +kernel
theorem d_Sb_init_4 : decode b_Sb_init 4 = .ok (.aload_n 0, 1) := by decide +kernel
theorem d_Sb_init_5 : decode b_Sb_init 5 = .ok (.iconst 4, 1) := by decide +kernel
theorem d_Sb_init_6 : decode b_Sb_init 6 = .ok (.newarray .int, 2) := by decide +kernel
theorem d_Sb_init_8 : decode b_Sb_init 8 = .ok (.putfield 9, 3) := by decide +kernel
theorem d_Sb_init_11 : decode b_Sb_init 11 = .ok (.aload_n 0, 1) := by decide +kernel
theorem d_Sb_init_12 : decode b_Sb_init 12 = .ok (.iconst 4, 1) := by decide +kernel
theorem d_Sb_init_13 : decode b_Sb_init 13 = .ok (.newarray .int, 2) := by decide +kernel
theorem d_Sb_init_15 : decode b_Sb_init 15 = .ok (.putfield 15, 3) := by decide +kernel
theorem d_Sb_init_18 : decode b_Sb_init 18 = .ok (.aload_n 0, 1) := by decide +kernel
theorem d_Sb_init_19 : decode b_Sb_init 19 = .ok (.iconst 4, 1) := by decide +kernel
theorem d_Sb_init_20 : decode b_Sb_init 20 = .ok (.newarray .int, 2) := by decide +kernel
theorem d_Sb_init_22 : decode b_Sb_init 22 = .ok (.putfield 18, 3) := by decide +kernel
theorem d_Sb_init_25 : decode b_Sb_init 25 = .ok (.aload_n 0, 1) := by decide +kernel
theorem d_Sb_init_26 : decode b_Sb_init 26 = .ok (.iconst 0, 1) := by decide +kernel
theorem d_Sb_init_27 : decode b_Sb_init 27 = .ok (.putfield 21, 3) := by decide +kernel
theorem d_Sb_init_30 : decode b_Sb_init 30 = .ok (.aload_n 0, 1) := by decide +kernel
theorem d_Sb_init_31 : decode b_Sb_init 31 = .ok (.iconst 1, 1) := by decide +kernel
theorem d_Sb_init_32 : decode b_Sb_init 32 = .ok (.putfield 25, 3) := by decide +kernel
theorem d_Sb_init_35 : decode b_Sb_init 35 = .ok (.aload_n 0, 1) := by decide +kernel
theorem d_Sb_init_36 : decode b_Sb_init 36 = .ok (.iconst 0, 1) := by decide +kernel
theorem d_Sb_init_37 : decode b_Sb_init 37 = .ok (.putfield 28, 3) := by decide +kernel
theorem d_Sb_init_40 : decode b_Sb_init 40 = .ok (.aload_n 0, 1) := by decide +kernel
theorem d_Sb_init_41 : decode b_Sb_init 41 = .ok (.sipush 1500, 3) := by decide +kernel
theorem d_Sb_init_44 : decode b_Sb_init 44 = .ok (.newarray .int, 2) := by decide +kernel
theorem d_Sb_init_46 : decode b_Sb_init 46 = .ok (.putfield 31, 3) := by decide +kernel
theorem d_Sb_init_49 : decode b_Sb_init 49 = .ok (.aload_n 0, 1) := by decide +kernel
theorem d_Sb_init_50 : decode b_Sb_init 50 = .ok (.sipush 1500, 3) := by decide +kernel
theorem d_Sb_init_53 : decode b_Sb_init 53 = .ok (.newarray .int, 2) := by decide +kernel
theorem d_Sb_init_55 : decode b_Sb_init 55 = .ok (.putfield 34, 3) := by decide +kernel
theorem d_Sb_init_58 : decode b_Sb_init 58 = .ok (.aload_n 0, 1) := by decide +kernel
theorem d_Sb_init_59 : decode b_Sb_init 59 = .ok (.iconst 0, 1) := by decide +kernel
theorem d_Sb_init_60 : decode b_Sb_init 60 = .ok (.putfield 37, 3) := by decide +kernel
theorem d_Sb_init_63 : decode b_Sb_init 63 = .ok (.aload_n 0, 1) := by decide +kernel
theorem d_Sb_init_64 : decode b_Sb_init 64 = .ok (.sipush 1500, 3) := by decide +kernel
theorem d_Sb_init_67 : decode b_Sb_init 67 = .ok (.newarray .int, 2) := by decide +kernel
theorem d_Sb_init_69 : decode b_Sb_init 69 = .ok (.putfield 40, 3) := by decide +kernel
theorem d_Sb_init_72 : decode b_Sb_init 72 = .ok (.aload_n 0, 1) := by decide +kernel
theorem d_Sb_init_73 : decode b_Sb_init 73 = .ok (.sipush 1500, 3) := by decide +kernel
theorem d_Sb_init_76 : decode b_Sb_init 76 = .ok (.newarray .int, 2) := by decide +kernel
theorem d_Sb_init_78 : decode b_Sb_init 78 = .ok (.putfield 43, 3) := by decide +kernel
theorem d_Sb_init_81 : decode b_Sb_init 81 = .ok (.return_, 1) := by decide +kernel
theorem d_Sb_takes_0 : decode b_Sb_takes 0 = .ok (.aload_n 1, 1) := by decide +kernel
theorem d_Sb_takes_1 : decode b_Sb_takes 1 = .ok (.invokevirtual 74, 3) := by decide +kernel
theorem d_Sb_takes_4 : decode b_Sb_takes 4 = .ok (.iconst 4, 1) := by decide +kernel
theorem d_Sb_takes_5 : decode b_Sb_takes 5 = .ok (.if_icmp .le 5, 3) := by decide +kernel
theorem d_Sb_takes_8 : decode b_Sb_takes 8 = .ok (.iconst 0, 1) := by decide +kernel
theorem d_Sb_takes_9 : decode b_Sb_takes 9 = .ok (.ireturn, 1) := by decide +kernel
theorem d_Sb_takes_10 : decode b_Sb_takes 10 = .ok (.iconst 1, 1) := by decide +kernel
theorem d_Sb_takes_11 : decode b_Sb_takes 11 = .ok (.istore_n 2, 1) := by decide +kernel
theorem d_Sb_takes_12 : decode b_Sb_takes 12 = .ok (.iconst 0, 1) := by decide +kernel
theorem d_Sb_takes_13 : decode b_Sb_takes 13 = .ok (.istore_n 3, 1) := by decide +kernel
theorem d_Sb_takes_14 : decode b_Sb_takes 14 = .ok (.iload_n 3, 1) := by decide +kernel
theorem d_Sb_takes_15 : decode b_Sb_takes 15 = .ok (.aload_n 1, 1) := by decide +kernel
theorem d_Sb_takes_16 : decode b_Sb_takes 16 = .ok (.invokevirtual 74, 3) := by decide +kernel
theorem d_Sb_takes_19 : decode b_Sb_takes 19 = .ok (.if_icmp .ge 17, 3) := by decide +kernel
theorem d_Sb_takes_22 : decode b_Sb_takes 22 = .ok (.iload_n 2, 1) := by decide +kernel
theorem d_Sb_takes_23 : decode b_Sb_takes 23 = .ok (.aload_n 1, 1) := by decide +kernel
theorem d_Sb_takes_24 : decode b_Sb_takes 24 = .ok (.iload_n 3, 1) := by decide +kernel
theorem d_Sb_takes_25 : decode b_Sb_takes 25 = .ok (.invokevirtual 79, 3) := by decide +kernel
theorem d_Sb_takes_28 : decode b_Sb_takes 28 = .ok (.imul, 1) := by decide +kernel
theorem d_Sb_takes_29 : decode b_Sb_takes 29 = .ok (.istore_n 2, 1) := by decide +kernel
theorem d_Sb_takes_30 : decode b_Sb_takes 30 = .ok (.iinc 3 1, 3) := by decide +kernel
theorem d_Sb_takes_33 : decode b_Sb_takes 33 = .ok (.goto (-19), 3) := by decide +kernel
theorem d_Sb_takes_36 : decode b_Sb_takes 36 = .ok (.iload_n 2, 1) := by decide +kernel
theorem d_Sb_takes_37 : decode b_Sb_takes 37 = .ok (.sipush 1500, 3) := by decide +kernel
theorem d_Sb_takes_40 : decode b_Sb_takes 40 = .ok (.if_icmp .le 5, 3) := by decide +kernel
theorem d_Sb_takes_43 : decode b_Sb_takes 43 = .ok (.iconst 0, 1) := by decide +kernel
theorem d_Sb_takes_44 : decode b_Sb_takes 44 = .ok (.ireturn, 1) := by decide +kernel
theorem d_Sb_takes_45 : decode b_Sb_takes 45 = .ok (.aload_n 0, 1) := by decide +kernel
theorem d_Sb_takes_46 : decode b_Sb_takes 46 = .ok (.iload_n 2, 1) := by decide +kernel
theorem d_Sb_takes_47 : decode b_Sb_takes 47 = .ok (.putfield 25, 3) := by decide +kernel
theorem d_Sb_takes_50 : decode b_Sb_takes 50 = .ok (.aload_n 0, 1) := by decide +kernel
theorem d_Sb_takes_51 : decode b_Sb_takes 51 = .ok (.aload_n 1, 1) := by decide +kernel
theorem d_Sb_takes_52 : decode b_Sb_takes 52 = .ok (.invokevirtual 82, 3) := by decide +kernel
theorem d_Sb_takes_55 : decode b_Sb_takes 55 = .ok (.aload_n 0, 1) := by decide +kernel
theorem d_Sb_takes_56 : decode b_Sb_takes 56 = .ok (.invokevirtual 86, 3) := by decide +kernel
theorem d_Sb_takes_59 : decode b_Sb_takes 59 = .ok (.iconst 1, 1) := by decide +kernel
theorem d_Sb_takes_60 : decode b_Sb_takes 60 = .ok (.ireturn, 1) := by decide +kernel
theorem d_Sb_takeInOrder_0 : decode b_Sb_takeInOrder 0 = .ok (.aload_n 0, 1) := by decide +kernel
theorem d_Sb_takeInOrder_1 : decode b_Sb_takeInOrder 1 = .ok (.aload_n 1, 1) := by decide +kernel
theorem d_Sb_takeInOrder_2 : decode b_Sb_takeInOrder 2 = .ok (.invokevirtual 74, 3) := by decide +kernel
theorem d_Sb_takeInOrder_5 : decode b_Sb_takeInOrder 5 = .ok (.putfield 21, 3) := by decide +kernel
theorem d_Sb_takeInOrder_8 : decode b_Sb_takeInOrder 8 = .ok (.iconst 0, 1) := by decide +kernel
theorem d_Sb_takeInOrder_9 : decode b_Sb_takeInOrder 9 = .ok (.istore_n 2, 1) := by decide +kernel
theorem d_Sb_takeInOrder_10 : decode b_Sb_takeInOrder 10 = .ok (.iload_n 2, 1) := by decide +kernel
theorem d_Sb_takeInOrder_11 : decode b_Sb_takeInOrder 11 = .ok (.aload_n 0, 1) := by decide +kernel
theorem d_Sb_takeInOrder_12 : decode b_Sb_takeInOrder 12 = .ok (.getfield 21, 3) := by decide +kernel
theorem d_Sb_takeInOrder_15 : decode b_Sb_takeInOrder 15 = .ok (.if_icmp .ge 87, 3) := by decide +kernel
theorem d_Sb_takeInOrder_18 : decode b_Sb_takeInOrder 18 = .ok (.iload_n 2, 1) := by decide +kernel
theorem d_Sb_takeInOrder_19 : decode b_Sb_takeInOrder 19 = .ok (.istore_n 3, 1) := by decide +kernel
theorem d_Sb_takeInOrder_20 : decode b_Sb_takeInOrder 20 = .ok (.iload_n 3, 1) := by decide +kernel
theorem d_Sb_takeInOrder_21 : decode b_Sb_takeInOrder 21 = .ok (.ifCond .le 53, 3) := by decide +kernel
theorem d_Sb_takeInOrder_24 : decode b_Sb_takeInOrder 24 = .ok (.aload_n 0, 1) := by decide +kernel
theorem d_Sb_takeInOrder_25 : decode b_Sb_takeInOrder 25 = .ok (.getfield 15, 3) := by decide +kernel
theorem d_Sb_takeInOrder_28 : decode b_Sb_takeInOrder 28 = .ok (.iload_n 3, 1) := by decide +kernel
theorem d_Sb_takeInOrder_29 : decode b_Sb_takeInOrder 29 = .ok (.iconst 1, 1) := by decide +kernel
theorem d_Sb_takeInOrder_30 : decode b_Sb_takeInOrder 30 = .ok (.isub, 1) := by decide +kernel
theorem d_Sb_takeInOrder_31 : decode b_Sb_takeInOrder 31 = .ok (.iaload, 1) := by decide +kernel
theorem d_Sb_takeInOrder_32 : decode b_Sb_takeInOrder 32 = .ok (.aload_n 1, 1) := by decide +kernel
theorem d_Sb_takeInOrder_33 : decode b_Sb_takeInOrder 33 = .ok (.iload_n 2, 1) := by decide +kernel
theorem d_Sb_takeInOrder_34 : decode b_Sb_takeInOrder 34 = .ok (.invokevirtual 79, 3) := by decide +kernel
theorem d_Sb_takeInOrder_37 : decode b_Sb_takeInOrder 37 = .ok (.if_icmp .le 37, 3) := by decide +kernel
theorem d_Sb_takeInOrder_40 : decode b_Sb_takeInOrder 40 = .ok (.aload_n 0, 1) := by decide +kernel
theorem d_Sb_takeInOrder_41 : decode b_Sb_takeInOrder 41 = .ok (.getfield 15, 3) := by decide +kernel
theorem d_Sb_takeInOrder_44 : decode b_Sb_takeInOrder 44 = .ok (.iload_n 3, 1) := by decide +kernel
theorem d_Sb_takeInOrder_45 : decode b_Sb_takeInOrder 45 = .ok (.aload_n 0, 1) := by decide +kernel
theorem d_Sb_takeInOrder_46 : decode b_Sb_takeInOrder 46 = .ok (.getfield 15, 3) := by decide +kernel
theorem d_Sb_takeInOrder_49 : decode b_Sb_takeInOrder 49 = .ok (.iload_n 3, 1) := by decide +kernel
theorem d_Sb_takeInOrder_50 : decode b_Sb_takeInOrder 50 = .ok (.iconst 1, 1) := by decide +kernel
theorem d_Sb_takeInOrder_51 : decode b_Sb_takeInOrder 51 = .ok (.isub, 1) := by decide +kernel
theorem d_Sb_takeInOrder_52 : decode b_Sb_takeInOrder 52 = .ok (.iaload, 1) := by decide +kernel
theorem d_Sb_takeInOrder_53 : decode b_Sb_takeInOrder 53 = .ok (.iastore, 1) := by decide +kernel
theorem d_Sb_takeInOrder_54 : decode b_Sb_takeInOrder 54 = .ok (.aload_n 0, 1) := by decide +kernel
theorem d_Sb_takeInOrder_55 : decode b_Sb_takeInOrder 55 = .ok (.getfield 9, 3) := by decide +kernel
theorem d_Sb_takeInOrder_58 : decode b_Sb_takeInOrder 58 = .ok (.iload_n 3, 1) := by decide +kernel
theorem d_Sb_takeInOrder_59 : decode b_Sb_takeInOrder 59 = .ok (.aload_n 0, 1) := by decide +kernel
theorem d_Sb_takeInOrder_60 : decode b_Sb_takeInOrder 60 = .ok (.getfield 9, 3) := by decide +kernel
theorem d_Sb_takeInOrder_63 : decode b_Sb_takeInOrder 63 = .ok (.iload_n 3, 1) := by decide +kernel
theorem d_Sb_takeInOrder_64 : decode b_Sb_takeInOrder 64 = .ok (.iconst 1, 1) := by decide +kernel
theorem d_Sb_takeInOrder_65 : decode b_Sb_takeInOrder 65 = .ok (.isub, 1) := by decide +kernel
theorem d_Sb_takeInOrder_66 : decode b_Sb_takeInOrder 66 = .ok (.iaload, 1) := by decide +kernel
theorem d_Sb_takeInOrder_67 : decode b_Sb_takeInOrder 67 = .ok (.iastore, 1) := by decide +kernel
theorem d_Sb_takeInOrder_68 : decode b_Sb_takeInOrder 68 = .ok (.iinc 3 (-1), 3) := by decide +kernel
theorem d_Sb_takeInOrder_71 : decode b_Sb_takeInOrder 71 = .ok (.goto (-51), 3) := by decide +kernel
theorem d_Sb_takeInOrder_74 : decode b_Sb_takeInOrder 74 = .ok (.aload_n 0, 1) := by decide +kernel
theorem d_Sb_takeInOrder_75 : decode b_Sb_takeInOrder 75 = .ok (.getfield 15, 3) := by decide +kernel
theorem d_Sb_takeInOrder_78 : decode b_Sb_takeInOrder 78 = .ok (.iload_n 3, 1) := by decide +kernel
theorem d_Sb_takeInOrder_79 : decode b_Sb_takeInOrder 79 = .ok (.aload_n 1, 1) := by decide +kernel
theorem d_Sb_takeInOrder_80 : decode b_Sb_takeInOrder 80 = .ok (.iload_n 2, 1) := by decide +kernel
theorem d_Sb_takeInOrder_81 : decode b_Sb_takeInOrder 81 = .ok (.invokevirtual 79, 3) := by decide +kernel
theorem d_Sb_takeInOrder_84 : decode b_Sb_takeInOrder 84 = .ok (.iastore, 1) := by decide +kernel
theorem d_Sb_takeInOrder_85 : decode b_Sb_takeInOrder 85 = .ok (.aload_n 0, 1) := by decide +kernel
theorem d_Sb_takeInOrder_86 : decode b_Sb_takeInOrder 86 = .ok (.getfield 9, 3) := by decide +kernel
theorem d_Sb_takeInOrder_89 : decode b_Sb_takeInOrder 89 = .ok (.iload_n 3, 1) := by decide +kernel
theorem d_Sb_takeInOrder_90 : decode b_Sb_takeInOrder 90 = .ok (.aload_n 1, 1) := by decide +kernel
theorem d_Sb_takeInOrder_91 : decode b_Sb_takeInOrder 91 = .ok (.iload_n 2, 1) := by decide +kernel
theorem d_Sb_takeInOrder_92 : decode b_Sb_takeInOrder 92 = .ok (.invokevirtual 96, 3) := by decide +kernel
theorem d_Sb_takeInOrder_95 : decode b_Sb_takeInOrder 95 = .ok (.iastore, 1) := by decide +kernel
theorem d_Sb_takeInOrder_96 : decode b_Sb_takeInOrder 96 = .ok (.iinc 2 1, 3) := by decide +kernel
theorem d_Sb_takeInOrder_99 : decode b_Sb_takeInOrder 99 = .ok (.goto (-89), 3) := by decide +kernel
theorem d_Sb_takeInOrder_102 : decode b_Sb_takeInOrder 102 = .ok (.return_, 1) := by decide +kernel
theorem d_Sb_weigh_0 : decode b_Sb_weigh 0 = .ok (.iconst 1, 1) := by decide +kernel
theorem d_Sb_weigh_1 : decode b_Sb_weigh 1 = .ok (.istore_n 1, 1) := by decide +kernel
theorem d_Sb_weigh_2 : decode b_Sb_weigh 2 = .ok (.aload_n 0, 1) := by decide +kernel
theorem d_Sb_weigh_3 : decode b_Sb_weigh 3 = .ok (.iconst 0, 1) := by decide +kernel
theorem d_Sb_weigh_4 : decode b_Sb_weigh 4 = .ok (.putfield 28, 3) := by decide +kernel
theorem d_Sb_weigh_7 : decode b_Sb_weigh 7 = .ok (.iconst 0, 1) := by decide +kernel
theorem d_Sb_weigh_8 : decode b_Sb_weigh 8 = .ok (.istore_n 2, 1) := by decide +kernel
theorem d_Sb_weigh_9 : decode b_Sb_weigh 9 = .ok (.iload_n 2, 1) := by decide +kernel
theorem d_Sb_weigh_10 : decode b_Sb_weigh 10 = .ok (.aload_n 0, 1) := by decide +kernel
theorem d_Sb_weigh_11 : decode b_Sb_weigh 11 = .ok (.getfield 21, 3) := by decide +kernel
theorem d_Sb_weigh_14 : decode b_Sb_weigh 14 = .ok (.if_icmp .ge 35, 3) := by decide +kernel
theorem d_Sb_weigh_17 : decode b_Sb_weigh 17 = .ok (.aload_n 0, 1) := by decide +kernel
theorem d_Sb_weigh_18 : decode b_Sb_weigh 18 = .ok (.getfield 18, 3) := by decide +kernel
theorem d_Sb_weigh_21 : decode b_Sb_weigh 21 = .ok (.iload_n 2, 1) := by decide +kernel
theorem d_Sb_weigh_22 : decode b_Sb_weigh 22 = .ok (.iload_n 1, 1) := by decide +kernel
theorem d_Sb_weigh_23 : decode b_Sb_weigh 23 = .ok (.iastore, 1) := by decide +kernel
theorem d_Sb_weigh_24 : decode b_Sb_weigh 24 = .ok (.aload_n 0, 1) := by decide +kernel
theorem d_Sb_weigh_25 : decode b_Sb_weigh 25 = .ok (.dup, 1) := by decide +kernel
theorem d_Sb_weigh_26 : decode b_Sb_weigh 26 = .ok (.getfield 28, 3) := by decide +kernel
theorem d_Sb_weigh_29 : decode b_Sb_weigh 29 = .ok (.iload_n 1, 1) := by decide +kernel
theorem d_Sb_weigh_30 : decode b_Sb_weigh 30 = .ok (.iadd, 1) := by decide +kernel
theorem d_Sb_weigh_31 : decode b_Sb_weigh 31 = .ok (.putfield 28, 3) := by decide +kernel
theorem d_Sb_weigh_34 : decode b_Sb_weigh 34 = .ok (.iload_n 1, 1) := by decide +kernel
theorem d_Sb_weigh_35 : decode b_Sb_weigh 35 = .ok (.aload_n 0, 1) := by decide +kernel
theorem d_Sb_weigh_36 : decode b_Sb_weigh 36 = .ok (.getfield 15, 3) := by decide +kernel
theorem d_Sb_weigh_39 : decode b_Sb_weigh 39 = .ok (.iload_n 2, 1) := by decide +kernel
theorem d_Sb_weigh_40 : decode b_Sb_weigh 40 = .ok (.iaload, 1) := by decide +kernel
theorem d_Sb_weigh_41 : decode b_Sb_weigh 41 = .ok (.imul, 1) := by decide +kernel
theorem d_Sb_weigh_42 : decode b_Sb_weigh 42 = .ok (.istore_n 1, 1) := by decide +kernel
theorem d_Sb_weigh_43 : decode b_Sb_weigh 43 = .ok (.iinc 2 1, 3) := by decide +kernel
theorem d_Sb_weigh_46 : decode b_Sb_weigh 46 = .ok (.goto (-37), 3) := by decide +kernel
theorem d_Sb_weigh_49 : decode b_Sb_weigh 49 = .ok (.return_, 1) := by decide +kernel
theorem d_Sb_startsSafe_0 : decode b_Sb_startsSafe 0 = .ok (.aload_n 0, 1) := by decide +kernel
theorem d_Sb_startsSafe_1 : decode b_Sb_startsSafe 1 = .ok (.invokevirtual 89, 3) := by decide +kernel
theorem d_Sb_startsSafe_4 : decode b_Sb_startsSafe 4 = .ok (.iconst 0, 1) := by decide +kernel
theorem d_Sb_startsSafe_5 : decode b_Sb_startsSafe 5 = .ok (.istore_n 1, 1) := by decide +kernel
theorem d_Sb_startsSafe_6 : decode b_Sb_startsSafe 6 = .ok (.iload_n 1, 1) := by decide +kernel
theorem d_Sb_startsSafe_7 : decode b_Sb_startsSafe 7 = .ok (.aload_n 0, 1) := by decide +kernel
theorem d_Sb_startsSafe_8 : decode b_Sb_startsSafe 8 = .ok (.getfield 25, 3) := by decide +kernel
theorem d_Sb_startsSafe_11 : decode b_Sb_startsSafe 11 = .ok (.if_icmp .ge 27, 3) := by decide +kernel
theorem d_Sb_startsSafe_14 : decode b_Sb_startsSafe 14 = .ok (.iload_n 1, 1) := by decide +kernel
theorem d_Sb_startsSafe_15 : decode b_Sb_startsSafe 15 = .ok (.aload_n 0, 1) := by decide +kernel
theorem d_Sb_startsSafe_16 : decode b_Sb_startsSafe 16 = .ok (.getfield 37, 3) := by decide +kernel
theorem d_Sb_startsSafe_19 : decode b_Sb_startsSafe 19 = .ok (.if_icmp .ge 19, 3) := by decide +kernel
theorem d_Sb_startsSafe_22 : decode b_Sb_startsSafe 22 = .ok (.aload_n 0, 1) := by decide +kernel
theorem d_Sb_startsSafe_23 : decode b_Sb_startsSafe 23 = .ok (.aload_n 0, 1) := by decide +kernel
theorem d_Sb_startsSafe_24 : decode b_Sb_startsSafe 24 = .ok (.getfield 34, 3) := by decide +kernel
theorem d_Sb_startsSafe_27 : decode b_Sb_startsSafe 27 = .ok (.iload_n 1, 1) := by decide +kernel
theorem d_Sb_startsSafe_28 : decode b_Sb_startsSafe 28 = .ok (.iaload, 1) := by decide +kernel
theorem d_Sb_startsSafe_29 : decode b_Sb_startsSafe 29 = .ok (.invokevirtual 92, 3) := by decide +kernel
theorem d_Sb_startsSafe_32 : decode b_Sb_startsSafe 32 = .ok (.iinc 1 1, 3) := by decide +kernel
theorem d_Sb_startsSafe_35 : decode b_Sb_startsSafe 35 = .ok (.goto (-29), 3) := by decide +kernel
theorem d_Sb_startsSafe_38 : decode b_Sb_startsSafe 38 = .ok (.aload_n 0, 1) := by decide +kernel
theorem d_Sb_startsSafe_39 : decode b_Sb_startsSafe 39 = .ok (.getfield 31, 3) := by decide +kernel
theorem d_Sb_startsSafe_42 : decode b_Sb_startsSafe 42 = .ok (.aload_n 0, 1) := by decide +kernel
theorem d_Sb_startsSafe_43 : decode b_Sb_startsSafe 43 = .ok (.getfield 25, 3) := by decide +kernel
theorem d_Sb_startsSafe_46 : decode b_Sb_startsSafe 46 = .ok (.iconst 1, 1) := by decide +kernel
theorem d_Sb_startsSafe_47 : decode b_Sb_startsSafe 47 = .ok (.isub, 1) := by decide +kernel
theorem d_Sb_startsSafe_48 : decode b_Sb_startsSafe 48 = .ok (.iaload, 1) := by decide +kernel
theorem d_Sb_startsSafe_49 : decode b_Sb_startsSafe 49 = .ok (.ifCond .le 7, 3) := by decide +kernel
theorem d_Sb_startsSafe_52 : decode b_Sb_startsSafe 52 = .ok (.iconst 1, 1) := by decide +kernel
theorem d_Sb_startsSafe_53 : decode b_Sb_startsSafe 53 = .ok (.goto 4, 3) := by decide +kernel
theorem d_Sb_startsSafe_56 : decode b_Sb_startsSafe 56 = .ok (.iconst 0, 1) := by decide +kernel
theorem d_Sb_startsSafe_57 : decode b_Sb_startsSafe 57 = .ok (.ireturn, 1) := by decide +kernel
theorem d_Sb_listDeadEnds_0 : decode b_Sb_listDeadEnds 0 = .ok (.aload_n 0, 1) := by decide +kernel
theorem d_Sb_listDeadEnds_1 : decode b_Sb_listDeadEnds 1 = .ok (.iconst 0, 1) := by decide +kernel
theorem d_Sb_listDeadEnds_2 : decode b_Sb_listDeadEnds 2 = .ok (.putfield 37, 3) := by decide +kernel
theorem d_Sb_listDeadEnds_5 : decode b_Sb_listDeadEnds 5 = .ok (.iconst 0, 1) := by decide +kernel
theorem d_Sb_listDeadEnds_6 : decode b_Sb_listDeadEnds 6 = .ok (.istore_n 1, 1) := by decide +kernel
theorem d_Sb_listDeadEnds_7 : decode b_Sb_listDeadEnds 7 = .ok (.iload_n 1, 1) := by decide +kernel
theorem d_Sb_listDeadEnds_8 : decode b_Sb_listDeadEnds 8 = .ok (.aload_n 0, 1) := by decide +kernel
theorem d_Sb_listDeadEnds_9 : decode b_Sb_listDeadEnds 9 = .ok (.getfield 25, 3) := by decide +kernel
theorem d_Sb_listDeadEnds_12 : decode b_Sb_listDeadEnds 12 = .ok (.if_icmp .ge 46, 3) := by decide +kernel
theorem d_Sb_listDeadEnds_15 : decode b_Sb_listDeadEnds 15 = .ok (.aload_n 0, 1) := by decide +kernel
theorem d_Sb_listDeadEnds_16 : decode b_Sb_listDeadEnds 16 = .ok (.getfield 31, 3) := by decide +kernel
theorem d_Sb_listDeadEnds_19 : decode b_Sb_listDeadEnds 19 = .ok (.iload_n 1, 1) := by decide +kernel
theorem d_Sb_listDeadEnds_20 : decode b_Sb_listDeadEnds 20 = .ok (.aload_n 0, 1) := by decide +kernel
theorem d_Sb_listDeadEnds_21 : decode b_Sb_listDeadEnds 21 = .ok (.iload_n 1, 1) := by decide +kernel
theorem d_Sb_listDeadEnds_22 : decode b_Sb_listDeadEnds 22 = .ok (.invokevirtual 99, 3) := by decide +kernel
theorem d_Sb_listDeadEnds_25 : decode b_Sb_listDeadEnds 25 = .ok (.iastore, 1) := by decide +kernel
theorem d_Sb_listDeadEnds_26 : decode b_Sb_listDeadEnds 26 = .ok (.aload_n 0, 1) := by decide +kernel
theorem d_Sb_listDeadEnds_27 : decode b_Sb_listDeadEnds 27 = .ok (.getfield 31, 3) := by decide +kernel
theorem d_Sb_listDeadEnds_30 : decode b_Sb_listDeadEnds 30 = .ok (.iload_n 1, 1) := by decide +kernel
theorem d_Sb_listDeadEnds_31 : decode b_Sb_listDeadEnds 31 = .ok (.iaload, 1) := by decide +kernel
theorem d_Sb_listDeadEnds_32 : decode b_Sb_listDeadEnds 32 = .ok (.ifCond .ne 20, 3) := by decide +kernel
theorem d_Sb_listDeadEnds_35 : decode b_Sb_listDeadEnds 35 = .ok (.aload_n 0, 1) := by decide +kernel
theorem d_Sb_listDeadEnds_36 : decode b_Sb_listDeadEnds 36 = .ok (.getfield 34, 3) := by decide +kernel
theorem d_Sb_listDeadEnds_39 : decode b_Sb_listDeadEnds 39 = .ok (.aload_n 0, 1) := by decide +kernel
theorem d_Sb_listDeadEnds_40 : decode b_Sb_listDeadEnds 40 = .ok (.dup, 1) := by decide +kernel
theorem d_Sb_listDeadEnds_41 : decode b_Sb_listDeadEnds 41 = .ok (.getfield 37, 3) := by decide +kernel
theorem d_Sb_listDeadEnds_44 : decode b_Sb_listDeadEnds 44 = .ok (.dup_x1, 1) := by decide +kernel
theorem d_Sb_listDeadEnds_45 : decode b_Sb_listDeadEnds 45 = .ok (.iconst 1, 1) := by decide +kernel
theorem d_Sb_listDeadEnds_46 : decode b_Sb_listDeadEnds 46 = .ok (.iadd, 1) := by decide +kernel
theorem d_Sb_listDeadEnds_47 : decode b_Sb_listDeadEnds 47 = .ok (.putfield 37, 3) := by decide +kernel
theorem d_Sb_listDeadEnds_50 : decode b_Sb_listDeadEnds 50 = .ok (.iload_n 1, 1) := by decide +kernel
theorem d_Sb_listDeadEnds_51 : decode b_Sb_listDeadEnds 51 = .ok (.iastore, 1) := by decide +kernel
theorem d_Sb_listDeadEnds_52 : decode b_Sb_listDeadEnds 52 = .ok (.iinc 1 1, 3) := by decide +kernel
theorem d_Sb_listDeadEnds_55 : decode b_Sb_listDeadEnds 55 = .ok (.goto (-48), 3) := by decide +kernel
theorem d_Sb_listDeadEnds_58 : decode b_Sb_listDeadEnds 58 = .ok (.return_, 1) := by decide +kernel
theorem d_Sb_countWaysOn_0 : decode b_Sb_countWaysOn 0 = .ok (.iconst 0, 1) := by decide +kernel
theorem d_Sb_countWaysOn_1 : decode b_Sb_countWaysOn 1 = .ok (.istore_n 2, 1) := by decide +kernel
theorem d_Sb_countWaysOn_2 : decode b_Sb_countWaysOn 2 = .ok (.iconst 0, 1) := by decide +kernel
theorem d_Sb_countWaysOn_3 : decode b_Sb_countWaysOn 3 = .ok (.istore_n 3, 1) := by decide +kernel
theorem d_Sb_countWaysOn_4 : decode b_Sb_countWaysOn 4 = .ok (.iload_n 3, 1) := by decide +kernel
theorem d_Sb_countWaysOn_5 : decode b_Sb_countWaysOn 5 = .ok (.aload_n 0, 1) := by decide +kernel
theorem d_Sb_countWaysOn_6 : decode b_Sb_countWaysOn 6 = .ok (.getfield 21, 3) := by decide +kernel
theorem d_Sb_countWaysOn_9 : decode b_Sb_countWaysOn 9 = .ok (.if_icmp .ge 21, 3) := by decide +kernel
theorem d_Sb_countWaysOn_12 : decode b_Sb_countWaysOn 12 = .ok (.aload_n 0, 1) := by decide +kernel
theorem d_Sb_countWaysOn_13 : decode b_Sb_countWaysOn 13 = .ok (.iload_n 1, 1) := by decide +kernel
theorem d_Sb_countWaysOn_14 : decode b_Sb_countWaysOn 14 = .ok (.iload_n 3, 1) := by decide +kernel
theorem d_Sb_countWaysOn_15 : decode b_Sb_countWaysOn 15 = .ok (.invokevirtual 102, 3) := by decide +kernel
theorem d_Sb_countWaysOn_18 : decode b_Sb_countWaysOn 18 = .ok (.ifCond .ne 6, 3) := by decide +kernel
theorem d_Sb_countWaysOn_21 : decode b_Sb_countWaysOn 21 = .ok (.iinc 2 1, 3) := by decide +kernel
theorem d_Sb_countWaysOn_24 : decode b_Sb_countWaysOn 24 = .ok (.iinc 3 1, 3) := by decide +kernel
theorem d_Sb_countWaysOn_27 : decode b_Sb_countWaysOn 27 = .ok (.goto (-23), 3) := by decide +kernel
theorem d_Sb_countWaysOn_30 : decode b_Sb_countWaysOn 30 = .ok (.iload_n 2, 1) := by decide +kernel
theorem d_Sb_countWaysOn_31 : decode b_Sb_countWaysOn 31 = .ok (.ifCond .ne 8, 3) := by decide +kernel
theorem d_Sb_countWaysOn_34 : decode b_Sb_countWaysOn 34 = .ok (.aload_n 0, 1) := by decide +kernel
theorem d_Sb_countWaysOn_35 : decode b_Sb_countWaysOn 35 = .ok (.getfield 21, 3) := by decide +kernel
theorem d_Sb_countWaysOn_38 : decode b_Sb_countWaysOn 38 = .ok (.ireturn, 1) := by decide +kernel
theorem d_Sb_countWaysOn_39 : decode b_Sb_countWaysOn 39 = .ok (.iload_n 2, 1) := by decide +kernel
theorem d_Sb_countWaysOn_40 : decode b_Sb_countWaysOn 40 = .ok (.iconst 1, 1) := by decide +kernel
theorem d_Sb_countWaysOn_41 : decode b_Sb_countWaysOn 41 = .ok (.if_icmp .ne 7, 3) := by decide +kernel
theorem d_Sb_countWaysOn_44 : decode b_Sb_countWaysOn 44 = .ok (.iconst 1, 1) := by decide +kernel
theorem d_Sb_countWaysOn_45 : decode b_Sb_countWaysOn 45 = .ok (.goto 4, 3) := by decide +kernel
theorem d_Sb_countWaysOn_48 : decode b_Sb_countWaysOn 48 = .ok (.iconst 0, 1) := by decide +kernel
theorem d_Sb_countWaysOn_49 : decode b_Sb_countWaysOn 49 = .ok (.ireturn, 1) := by decide +kernel
theorem d_Sb_digit_0 : decode b_Sb_digit 0 = .ok (.aload_n 0, 1) := by decide +kernel
theorem d_Sb_digit_1 : decode b_Sb_digit 1 = .ok (.getfield 18, 3) := by decide +kernel
theorem d_Sb_digit_4 : decode b_Sb_digit 4 = .ok (.iload_n 2, 1) := by decide +kernel
theorem d_Sb_digit_5 : decode b_Sb_digit 5 = .ok (.iaload, 1) := by decide +kernel
theorem d_Sb_digit_6 : decode b_Sb_digit 6 = .ok (.ifCond .le 30, 3) := by decide +kernel
theorem d_Sb_digit_9 : decode b_Sb_digit 9 = .ok (.aload_n 0, 1) := by decide +kernel
theorem d_Sb_digit_10 : decode b_Sb_digit 10 = .ok (.getfield 15, 3) := by decide +kernel
theorem d_Sb_digit_13 : decode b_Sb_digit 13 = .ok (.iload_n 2, 1) := by decide +kernel
theorem d_Sb_digit_14 : decode b_Sb_digit 14 = .ok (.iaload, 1) := by decide +kernel
theorem d_Sb_digit_15 : decode b_Sb_digit 15 = .ok (.ifCond .le 21, 3) := by decide +kernel
theorem d_Sb_digit_18 : decode b_Sb_digit 18 = .ok (.iload_n 1, 1) := by decide +kernel
theorem d_Sb_digit_19 : decode b_Sb_digit 19 = .ok (.aload_n 0, 1) := by decide +kernel
theorem d_Sb_digit_20 : decode b_Sb_digit 20 = .ok (.getfield 18, 3) := by decide +kernel
theorem d_Sb_digit_23 : decode b_Sb_digit 23 = .ok (.iload_n 2, 1) := by decide +kernel
theorem d_Sb_digit_24 : decode b_Sb_digit 24 = .ok (.iaload, 1) := by decide +kernel
theorem d_Sb_digit_25 : decode b_Sb_digit 25 = .ok (.idiv, 1) := by decide +kernel
theorem d_Sb_digit_26 : decode b_Sb_digit 26 = .ok (.aload_n 0, 1) := by decide +kernel
theorem d_Sb_digit_27 : decode b_Sb_digit 27 = .ok (.getfield 15, 3) := by decide +kernel
theorem d_Sb_digit_30 : decode b_Sb_digit 30 = .ok (.iload_n 2, 1) := by decide +kernel
theorem d_Sb_digit_31 : decode b_Sb_digit 31 = .ok (.iaload, 1) := by decide +kernel
theorem d_Sb_digit_32 : decode b_Sb_digit 32 = .ok (.irem, 1) := by decide +kernel
theorem d_Sb_digit_33 : decode b_Sb_digit 33 = .ok (.goto 4, 3) := by decide +kernel
theorem d_Sb_digit_36 : decode b_Sb_digit 36 = .ok (.iconst 0, 1) := by decide +kernel
theorem d_Sb_digit_37 : decode b_Sb_digit 37 = .ok (.ireturn, 1) := by decide +kernel
theorem d_Sb_strikeWaysTo_0 : decode b_Sb_strikeWaysTo 0 = .ok (.iconst 0, 1) := by decide +kernel
theorem d_Sb_strikeWaysTo_1 : decode b_Sb_strikeWaysTo 1 = .ok (.istore_n 2, 1) := by decide +kernel
theorem d_Sb_strikeWaysTo_2 : decode b_Sb_strikeWaysTo 2 = .ok (.iload_n 2, 1) := by decide +kernel
theorem d_Sb_strikeWaysTo_3 : decode b_Sb_strikeWaysTo 3 = .ok (.aload_n 0, 1) := by decide +kernel
theorem d_Sb_strikeWaysTo_4 : decode b_Sb_strikeWaysTo 4 = .ok (.getfield 21, 3) := by decide +kernel
theorem d_Sb_strikeWaysTo_7 : decode b_Sb_strikeWaysTo 7 = .ok (.if_icmp .ge 74, 3) := by decide +kernel
theorem d_Sb_strikeWaysTo_10 : decode b_Sb_strikeWaysTo 10 = .ok (.aload_n 0, 1) := by decide +kernel
theorem d_Sb_strikeWaysTo_11 : decode b_Sb_strikeWaysTo 11 = .ok (.iload_n 1, 1) := by decide +kernel
theorem d_Sb_strikeWaysTo_12 : decode b_Sb_strikeWaysTo 12 = .ok (.iload_n 2, 1) := by decide +kernel
theorem d_Sb_strikeWaysTo_13 : decode b_Sb_strikeWaysTo 13 = .ok (.invokevirtual 105, 3) := by decide +kernel
theorem d_Sb_strikeWaysTo_16 : decode b_Sb_strikeWaysTo 16 = .ok (.ifCond .eq 59, 3) := by decide +kernel
theorem d_Sb_strikeWaysTo_19 : decode b_Sb_strikeWaysTo 19 = .ok (.iload_n 1, 1) := by decide +kernel
theorem d_Sb_strikeWaysTo_20 : decode b_Sb_strikeWaysTo 20 = .ok (.aload_n 0, 1) := by decide +kernel
theorem d_Sb_strikeWaysTo_21 : decode b_Sb_strikeWaysTo 21 = .ok (.getfield 28, 3) := by decide +kernel
theorem d_Sb_strikeWaysTo_24 : decode b_Sb_strikeWaysTo 24 = .ok (.iadd, 1) := by decide +kernel
theorem d_Sb_strikeWaysTo_25 : decode b_Sb_strikeWaysTo 25 = .ok (.aload_n 0, 1) := by decide +kernel
theorem d_Sb_strikeWaysTo_26 : decode b_Sb_strikeWaysTo 26 = .ok (.getfield 18, 3) := by decide +kernel
theorem d_Sb_strikeWaysTo_29 : decode b_Sb_strikeWaysTo 29 = .ok (.iload_n 2, 1) := by decide +kernel
theorem d_Sb_strikeWaysTo_30 : decode b_Sb_strikeWaysTo 30 = .ok (.iaload, 1) := by decide +kernel
theorem d_Sb_strikeWaysTo_31 : decode b_Sb_strikeWaysTo 31 = .ok (.aload_n 0, 1) := by decide +kernel
theorem d_Sb_strikeWaysTo_32 : decode b_Sb_strikeWaysTo 32 = .ok (.getfield 15, 3) := by decide +kernel
theorem d_Sb_strikeWaysTo_35 : decode b_Sb_strikeWaysTo 35 = .ok (.iload_n 2, 1) := by decide +kernel
theorem d_Sb_strikeWaysTo_36 : decode b_Sb_strikeWaysTo 36 = .ok (.iaload, 1) := by decide +kernel
theorem d_Sb_strikeWaysTo_37 : decode b_Sb_strikeWaysTo 37 = .ok (.imul, 1) := by decide +kernel
theorem d_Sb_strikeWaysTo_38 : decode b_Sb_strikeWaysTo 38 = .ok (.isub, 1) := by decide +kernel
theorem d_Sb_strikeWaysTo_39 : decode b_Sb_strikeWaysTo 39 = .ok (.istore_n 3, 1) := by decide +kernel
theorem d_Sb_strikeWaysTo_40 : decode b_Sb_strikeWaysTo 40 = .ok (.iconst 0, 1) := by decide +kernel
theorem d_Sb_strikeWaysTo_41 : decode b_Sb_strikeWaysTo 41 = .ok (.istore 4, 2) := by decide +kernel
theorem d_Sb_strikeWaysTo_43 : decode b_Sb_strikeWaysTo 43 = .ok (.iload 4, 2) := by decide +kernel
theorem d_Sb_strikeWaysTo_45 : decode b_Sb_strikeWaysTo 45 = .ok (.aload_n 0, 1) := by decide +kernel
theorem d_Sb_strikeWaysTo_46 : decode b_Sb_strikeWaysTo 46 = .ok (.getfield 15, 3) := by decide +kernel
theorem d_Sb_strikeWaysTo_49 : decode b_Sb_strikeWaysTo 49 = .ok (.iload_n 2, 1) := by decide +kernel
theorem d_Sb_strikeWaysTo_50 : decode b_Sb_strikeWaysTo 50 = .ok (.iaload, 1) := by decide +kernel
theorem d_Sb_strikeWaysTo_51 : decode b_Sb_strikeWaysTo 51 = .ok (.if_icmp .ge 24, 3) := by decide +kernel
theorem d_Sb_strikeWaysTo_54 : decode b_Sb_strikeWaysTo 54 = .ok (.aload_n 0, 1) := by decide +kernel
theorem d_Sb_strikeWaysTo_55 : decode b_Sb_strikeWaysTo 55 = .ok (.iload_n 3, 1) := by decide +kernel
theorem d_Sb_strikeWaysTo_56 : decode b_Sb_strikeWaysTo 56 = .ok (.iload 4, 2) := by decide +kernel
theorem d_Sb_strikeWaysTo_58 : decode b_Sb_strikeWaysTo 58 = .ok (.aload_n 0, 1) := by decide +kernel
theorem d_Sb_strikeWaysTo_59 : decode b_Sb_strikeWaysTo 59 = .ok (.getfield 18, 3) := by decide +kernel
theorem d_Sb_strikeWaysTo_62 : decode b_Sb_strikeWaysTo 62 = .ok (.iload_n 2, 1) := by decide +kernel
theorem d_Sb_strikeWaysTo_63 : decode b_Sb_strikeWaysTo 63 = .ok (.iaload, 1) := by decide +kernel
theorem d_Sb_strikeWaysTo_64 : decode b_Sb_strikeWaysTo 64 = .ok (.imul, 1) := by decide +kernel
theorem d_Sb_strikeWaysTo_65 : decode b_Sb_strikeWaysTo 65 = .ok (.iadd, 1) := by decide +kernel
theorem d_Sb_strikeWaysTo_66 : decode b_Sb_strikeWaysTo 66 = .ok (.invokevirtual 109, 3) := by decide +kernel
theorem d_Sb_strikeWaysTo_69 : decode b_Sb_strikeWaysTo 69 = .ok (.iinc 4 1, 3) := by decide +kernel
theorem d_Sb_strikeWaysTo_72 : decode b_Sb_strikeWaysTo 72 = .ok (.goto (-29), 3) := by decide +kernel
theorem d_Sb_strikeWaysTo_75 : decode b_Sb_strikeWaysTo 75 = .ok (.iinc 2 1, 3) := by decide +kernel
theorem d_Sb_strikeWaysTo_78 : decode b_Sb_strikeWaysTo 78 = .ok (.goto (-76), 3) := by decide +kernel
theorem d_Sb_strikeWaysTo_81 : decode b_Sb_strikeWaysTo 81 = .ok (.return_, 1) := by decide +kernel
theorem d_Sb_canComeFrom_0 : decode b_Sb_canComeFrom 0 = .ok (.iconst 0, 1) := by decide +kernel
theorem d_Sb_canComeFrom_1 : decode b_Sb_canComeFrom 1 = .ok (.istore_n 3, 1) := by decide +kernel
theorem d_Sb_canComeFrom_2 : decode b_Sb_canComeFrom 2 = .ok (.iload_n 3, 1) := by decide +kernel
theorem d_Sb_canComeFrom_3 : decode b_Sb_canComeFrom 3 = .ok (.aload_n 0, 1) := by decide +kernel
theorem d_Sb_canComeFrom_4 : decode b_Sb_canComeFrom 4 = .ok (.getfield 21, 3) := by decide +kernel
theorem d_Sb_canComeFrom_7 : decode b_Sb_canComeFrom 7 = .ok (.if_icmp .ge 50, 3) := by decide +kernel
theorem d_Sb_canComeFrom_10 : decode b_Sb_canComeFrom 10 = .ok (.aload_n 0, 1) := by decide +kernel
theorem d_Sb_canComeFrom_11 : decode b_Sb_canComeFrom 11 = .ok (.iload_n 1, 1) := by decide +kernel
theorem d_Sb_canComeFrom_12 : decode b_Sb_canComeFrom 12 = .ok (.iload_n 3, 1) := by decide +kernel
theorem d_Sb_canComeFrom_13 : decode b_Sb_canComeFrom 13 = .ok (.invokevirtual 102, 3) := by decide +kernel
theorem d_Sb_canComeFrom_16 : decode b_Sb_canComeFrom 16 = .ok (.aload_n 0, 1) := by decide +kernel
theorem d_Sb_canComeFrom_17 : decode b_Sb_canComeFrom 17 = .ok (.getfield 15, 3) := by decide +kernel
theorem d_Sb_canComeFrom_20 : decode b_Sb_canComeFrom 20 = .ok (.iload_n 3, 1) := by decide +kernel
theorem d_Sb_canComeFrom_21 : decode b_Sb_canComeFrom 21 = .ok (.iaload, 1) := by decide +kernel
theorem d_Sb_canComeFrom_22 : decode b_Sb_canComeFrom 22 = .ok (.iconst 1, 1) := by decide +kernel
theorem d_Sb_canComeFrom_23 : decode b_Sb_canComeFrom 23 = .ok (.isub, 1) := by decide +kernel
theorem d_Sb_canComeFrom_24 : decode b_Sb_canComeFrom 24 = .ok (.if_icmp .ne 7, 3) := by decide +kernel
theorem d_Sb_canComeFrom_27 : decode b_Sb_canComeFrom 27 = .ok (.iconst 1, 1) := by decide +kernel
theorem d_Sb_canComeFrom_28 : decode b_Sb_canComeFrom 28 = .ok (.goto 4, 3) := by decide +kernel
end
section
theorem d_Sb_canComeFrom_31 : decode b_Sb_canComeFrom 31 = .ok (.iconst 0, 1) := by decide +kernel
theorem d_Sb_canComeFrom_32 : decode b_Sb_canComeFrom 32 = .ok (.istore 4, 2) := by decide +kernel
theorem d_Sb_canComeFrom_34 : decode b_Sb_canComeFrom 34 = .ok (.iload 4, 2) := by decide +kernel
theorem d_Sb_canComeFrom_36 : decode b_Sb_canComeFrom 36 = .ok (.iload_n 3, 1) := by decide +kernel
theorem d_Sb_canComeFrom_37 : decode b_Sb_canComeFrom 37 = .ok (.iload_n 2, 1) := by decide +kernel
theorem d_Sb_canComeFrom_38 : decode b_Sb_canComeFrom 38 = .ok (.if_icmp .ne 7, 3) := by decide +kernel
theorem d_Sb_canComeFrom_41 : decode b_Sb_canComeFrom 41 = .ok (.iconst 1, 1) := by decide +kernel
theorem d_Sb_canComeFrom_42 : decode b_Sb_canComeFrom 42 = .ok (.goto 4, 3) := by decide +kernel
theorem d_Sb_canComeFrom_45 : decode b_Sb_canComeFrom 45 = .ok (.iconst 0, 1) := by decide +kernel
theorem d_Sb_canComeFrom_46 : decode b_Sb_canComeFrom 46 = .ok (.if_icmp .eq 5, 3) := by decide +kernel
theorem d_Sb_canComeFrom_49 : decode b_Sb_canComeFrom 49 = .ok (.iconst 0, 1) := by decide +kernel
theorem d_Sb_canComeFrom_50 : decode b_Sb_canComeFrom 50 = .ok (.ireturn, 1) := by decide +kernel
theorem d_Sb_canComeFrom_51 : decode b_Sb_canComeFrom 51 = .ok (.iinc 3 1, 3) := by decide +kernel
theorem d_Sb_canComeFrom_54 : decode b_Sb_canComeFrom 54 = .ok (.goto (-52), 3) := by decide +kernel
theorem d_Sb_canComeFrom_57 : decode b_Sb_canComeFrom 57 = .ok (.iconst 1, 1) := by decide +kernel
theorem d_Sb_canComeFrom_58 : decode b_Sb_canComeFrom 58 = .ok (.ireturn, 1) := by decide +kernel
theorem d_Sb_strikeOneWay_0 : decode b_Sb_strikeOneWay 0 = .ok (.aload_n 0, 1) := by decide +kernel
theorem d_Sb_strikeOneWay_1 : decode b_Sb_strikeOneWay 1 = .ok (.getfield 31, 3) := by decide +kernel
theorem d_Sb_strikeOneWay_4 : decode b_Sb_strikeOneWay 4 = .ok (.iload_n 1, 1) := by decide +kernel
theorem d_Sb_strikeOneWay_5 : decode b_Sb_strikeOneWay 5 = .ok (.dup2, 1) := by decide +kernel
theorem d_Sb_strikeOneWay_6 : decode b_Sb_strikeOneWay 6 = .ok (.iaload, 1) := by decide +kernel
theorem d_Sb_strikeOneWay_7 : decode b_Sb_strikeOneWay 7 = .ok (.iconst 1, 1) := by decide +kernel
theorem d_Sb_strikeOneWay_8 : decode b_Sb_strikeOneWay 8 = .ok (.isub, 1) := by decide +kernel
theorem d_Sb_strikeOneWay_9 : decode b_Sb_strikeOneWay 9 = .ok (.iastore, 1) := by decide +kernel
theorem d_Sb_strikeOneWay_10 : decode b_Sb_strikeOneWay 10 = .ok (.aload_n 0, 1) := by decide +kernel
theorem d_Sb_strikeOneWay_11 : decode b_Sb_strikeOneWay 11 = .ok (.getfield 31, 3) := by decide +kernel
theorem d_Sb_strikeOneWay_14 : decode b_Sb_strikeOneWay 14 = .ok (.iload_n 1, 1) := by decide +kernel
theorem d_Sb_strikeOneWay_15 : decode b_Sb_strikeOneWay 15 = .ok (.iaload, 1) := by decide +kernel
theorem d_Sb_strikeOneWay_16 : decode b_Sb_strikeOneWay 16 = .ok (.ifCond .ne 20, 3) := by decide +kernel
theorem d_Sb_strikeOneWay_19 : decode b_Sb_strikeOneWay 19 = .ok (.aload_n 0, 1) := by decide +kernel
theorem d_Sb_strikeOneWay_20 : decode b_Sb_strikeOneWay 20 = .ok (.getfield 34, 3) := by decide +kernel
theorem d_Sb_strikeOneWay_23 : decode b_Sb_strikeOneWay 23 = .ok (.aload_n 0, 1) := by decide +kernel
theorem d_Sb_strikeOneWay_24 : decode b_Sb_strikeOneWay 24 = .ok (.dup, 1) := by decide +kernel
theorem d_Sb_strikeOneWay_25 : decode b_Sb_strikeOneWay 25 = .ok (.getfield 37, 3) := by decide +kernel
theorem d_Sb_strikeOneWay_28 : decode b_Sb_strikeOneWay 28 = .ok (.dup_x1, 1) := by decide +kernel
theorem d_Sb_strikeOneWay_29 : decode b_Sb_strikeOneWay 29 = .ok (.iconst 1, 1) := by decide +kernel
theorem d_Sb_strikeOneWay_30 : decode b_Sb_strikeOneWay 30 = .ok (.iadd, 1) := by decide +kernel
theorem d_Sb_strikeOneWay_31 : decode b_Sb_strikeOneWay 31 = .ok (.putfield 37, 3) := by decide +kernel
theorem d_Sb_strikeOneWay_34 : decode b_Sb_strikeOneWay 34 = .ok (.iload_n 1, 1) := by decide +kernel
theorem d_Sb_strikeOneWay_35 : decode b_Sb_strikeOneWay 35 = .ok (.iastore, 1) := by decide +kernel
theorem d_Sb_strikeOneWay_36 : decode b_Sb_strikeOneWay 36 = .ok (.return_, 1) := by decide +kernel
theorem d_Lw_ask_0 : decode b_Lw_ask 0 = .ok (.aload_n 3, 1) := by decide +kernel
theorem d_Lw_ask_1 : decode b_Lw_ask 1 = .ok (.iconst 0, 1) := by decide +kernel
theorem d_Lw_ask_2 : decode b_Lw_ask 2 = .ok (.aload_n 0, 1) := by decide +kernel
theorem d_Lw_ask_3 : decode b_Lw_ask 3 = .ok (.iload_n 1, 1) := by decide +kernel
theorem d_Lw_ask_4 : decode b_Lw_ask 4 = .ok (.iload_n 2, 1) := by decide +kernel
theorem d_Lw_ask_5 : decode b_Lw_ask 5 = .ok (.invokevirtual 7, 3) := by decide +kernel
theorem d_Lw_ask_8 : decode b_Lw_ask 8 = .ok (.i2l, 1) := by decide +kernel
theorem d_Lw_ask_9 : decode b_Lw_ask 9 = .ok (.lastore, 1) := by decide +kernel
theorem d_Lw_ask_10 : decode b_Lw_ask 10 = .ok (.goto 15, 3) := by decide +kernel
theorem d_Lw_ask_13 : decode b_Lw_ask 13 = .ok (.astore 4, 2) := by decide +kernel
theorem d_Lw_ask_15 : decode b_Lw_ask 15 = .ok (.iconst 1, 1) := by decide +kernel
theorem d_Lw_ask_16 : decode b_Lw_ask 16 = .ok (.ireturn, 1) := by decide +kernel
theorem d_Lw_ask_17 : decode b_Lw_ask 17 = .ok (.astore 4, 2) := by decide +kernel
theorem d_Lw_ask_19 : decode b_Lw_ask 19 = .ok (.iconst 2, 1) := by decide +kernel
theorem d_Lw_ask_20 : decode b_Lw_ask 20 = .ok (.ireturn, 1) := by decide +kernel
theorem d_Lw_ask_21 : decode b_Lw_ask 21 = .ok (.astore 4, 2) := by decide +kernel
theorem d_Lw_ask_23 : decode b_Lw_ask 23 = .ok (.iconst 3, 1) := by decide +kernel
theorem d_Lw_ask_24 : decode b_Lw_ask 24 = .ok (.ireturn, 1) := by decide +kernel
theorem d_Lw_ask_25 : decode b_Lw_ask 25 = .ok (.iconst 0, 1) := by decide +kernel
theorem d_Lw_ask_26 : decode b_Lw_ask 26 = .ok (.ireturn, 1) := by decide +kernel
theorem d_Pk_ask_0 : decode b_Pk_ask 0 = .ok (.iload_n 1, 1) := by decide +kernel
theorem d_Pk_ask_1 : decode b_Pk_ask 1 = .ok (.iconst 1, 1) := by decide +kernel
theorem d_Pk_ask_2 : decode b_Pk_ask 2 = .ok (.if_icmp .lt 33, 3) := by decide +kernel
theorem d_Pk_ask_5 : decode b_Pk_ask 5 = .ok (.iload_n 1, 1) := by decide +kernel
theorem d_Pk_ask_6 : decode b_Pk_ask 6 = .ok (.sipush 999, 3) := by decide +kernel
theorem d_Pk_ask_9 : decode b_Pk_ask 9 = .ok (.if_icmp .gt 26, 3) := by decide +kernel
theorem d_Pk_ask_12 : decode b_Pk_ask 12 = .ok (.iload_n 2, 1) := by decide +kernel
theorem d_Pk_ask_13 : decode b_Pk_ask 13 = .ok (.iconst 1, 1) := by decide +kernel
theorem d_Pk_ask_14 : decode b_Pk_ask 14 = .ok (.if_icmp .lt 21, 3) := by decide +kernel
theorem d_Pk_ask_17 : decode b_Pk_ask 17 = .ok (.iload_n 2, 1) := by decide +kernel
theorem d_Pk_ask_18 : decode b_Pk_ask 18 = .ok (.bipush 40, 2) := by decide +kernel
theorem d_Pk_ask_20 : decode b_Pk_ask 20 = .ok (.if_icmp .gt 15, 3) := by decide +kernel
theorem d_Pk_ask_23 : decode b_Pk_ask 23 = .ok (.aload_n 0, 1) := by decide +kernel
theorem d_Pk_ask_24 : decode b_Pk_ask 24 = .ok (.getfield 23, 3) := by decide +kernel
theorem d_Pk_ask_27 : decode b_Pk_ask 27 = .ok (.iload_n 1, 1) := by decide +kernel
theorem d_Pk_ask_28 : decode b_Pk_ask 28 = .ok (.invokevirtual 57, 3) := by decide +kernel
theorem d_Pk_ask_31 : decode b_Pk_ask 31 = .ok (.iconst (-1), 1) := by decide +kernel
theorem d_Pk_ask_32 : decode b_Pk_ask 32 = .ok (.if_icmp .eq 11, 3) := by decide +kernel
theorem d_Pk_ask_35 : decode b_Pk_ask 35 = .ok (.new 61, 3) := by decide +kernel
theorem d_Pk_ask_38 : decode b_Pk_ask 38 = .ok (.dup, 1) := by decide +kernel
theorem d_Pk_ask_39 : decode b_Pk_ask 39 = .ok (.invokespecial 63, 3) := by decide +kernel
theorem d_Pk_ask_42 : decode b_Pk_ask 42 = .ok (.athrow, 1) := by decide +kernel
theorem d_Pk_ask_43 : decode b_Pk_ask 43 = .ok (.aload_n 0, 1) := by decide +kernel
theorem d_Pk_ask_44 : decode b_Pk_ask 44 = .ok (.getfield 40, 3) := by decide +kernel
theorem d_Pk_ask_47 : decode b_Pk_ask 47 = .ok (.ifCond .eq 11, 3) := by decide +kernel
theorem d_Pk_ask_50 : decode b_Pk_ask 50 = .ok (.new 64, 3) := by decide +kernel
theorem d_Pk_ask_53 : decode b_Pk_ask 53 = .ok (.dup, 1) := by decide +kernel
theorem d_Pk_ask_54 : decode b_Pk_ask 54 = .ok (.invokespecial 66, 3) := by decide +kernel
theorem d_Pk_ask_57 : decode b_Pk_ask 57 = .ok (.athrow, 1) := by decide +kernel
theorem d_Pk_ask_58 : decode b_Pk_ask 58 = .ok (.aload_n 0, 1) := by decide +kernel
theorem d_Pk_ask_59 : decode b_Pk_ask 59 = .ok (.getfield 23, 3) := by decide +kernel
theorem d_Pk_ask_62 : decode b_Pk_ask 62 = .ok (.invokevirtual 67, 3) := by decide +kernel
theorem d_Pk_ask_65 : decode b_Pk_ask 65 = .ok (.bipush 10, 2) := by decide +kernel
theorem d_Pk_ask_67 : decode b_Pk_ask 67 = .ok (.if_icmp .lt 11, 3) := by decide +kernel
theorem d_Pk_ask_70 : decode b_Pk_ask 70 = .ok (.new 71, 3) := by decide +kernel
theorem d_Pk_ask_73 : decode b_Pk_ask 73 = .ok (.dup, 1) := by decide +kernel
theorem d_Pk_ask_74 : decode b_Pk_ask 74 = .ok (.invokespecial 73, 3) := by decide +kernel
theorem d_Pk_ask_77 : decode b_Pk_ask 77 = .ok (.athrow, 1) := by decide +kernel
theorem d_Pk_ask_78 : decode b_Pk_ask 78 = .ok (.aload_n 0, 1) := by decide +kernel
theorem d_Pk_ask_79 : decode b_Pk_ask 79 = .ok (.getfield 27, 3) := by decide +kernel
theorem d_Pk_ask_82 : decode b_Pk_ask 82 = .ok (.aload_n 0, 1) := by decide +kernel
theorem d_Pk_ask_83 : decode b_Pk_ask 83 = .ok (.getfield 23, 3) := by decide +kernel
theorem d_Pk_ask_86 : decode b_Pk_ask 86 = .ok (.invokevirtual 74, 3) := by decide +kernel
theorem d_Pk_ask_89 : decode b_Pk_ask 89 = .ok (.aload_n 0, 1) := by decide +kernel
theorem d_Pk_ask_90 : decode b_Pk_ask 90 = .ok (.getfield 27, 3) := by decide +kernel
theorem d_Pk_ask_93 : decode b_Pk_ask 93 = .ok (.iload_n 1, 1) := by decide +kernel
theorem d_Pk_ask_94 : decode b_Pk_ask 94 = .ok (.iload_n 2, 1) := by decide +kernel
theorem d_Pk_ask_95 : decode b_Pk_ask 95 = .ok (.invokevirtual 78, 3) := by decide +kernel
theorem d_Pk_ask_98 : decode b_Pk_ask 98 = .ok (.aload_n 0, 1) := by decide +kernel
theorem d_Pk_ask_99 : decode b_Pk_ask 99 = .ok (.invokevirtual 82, 3) := by decide +kernel
theorem d_Pk_ask_102 : decode b_Pk_ask 102 = .ok (.istore_n 3, 1) := by decide +kernel
theorem d_Pk_ask_103 : decode b_Pk_ask 103 = .ok (.iload_n 3, 1) := by decide +kernel
theorem d_Pk_ask_104 : decode b_Pk_ask 104 = .ok (.iconst (-1), 1) := by decide +kernel
theorem d_Pk_ask_105 : decode b_Pk_ask 105 = .ok (.if_icmp .ne 11, 3) := by decide +kernel
theorem d_Pk_ask_108 : decode b_Pk_ask 108 = .ok (.new 71, 3) := by decide +kernel
theorem d_Pk_ask_111 : decode b_Pk_ask 111 = .ok (.dup, 1) := by decide +kernel
theorem d_Pk_ask_112 : decode b_Pk_ask 112 = .ok (.invokespecial 73, 3) := by decide +kernel
theorem d_Pk_ask_115 : decode b_Pk_ask 115 = .ok (.athrow, 1) := by decide +kernel
theorem d_Pk_ask_116 : decode b_Pk_ask 116 = .ok (.aload_n 0, 1) := by decide +kernel
theorem d_Pk_ask_117 : decode b_Pk_ask 117 = .ok (.iload_n 3, 1) := by decide +kernel
theorem d_Pk_ask_118 : decode b_Pk_ask 118 = .ok (.invokevirtual 85, 3) := by decide +kernel
theorem d_Pk_ask_121 : decode b_Pk_ask 121 = .ok (.ireturn, 1) := by decide +kernel
theorem d_Cl_copyFrom_0 : decode b_Cl_copyFrom 0 = .ok (.aload_n 0, 1) := by decide +kernel
theorem d_Cl_copyFrom_1 : decode b_Cl_copyFrom 1 = .ok (.aload_n 1, 1) := by decide +kernel
theorem d_Cl_copyFrom_2 : decode b_Cl_copyFrom 2 = .ok (.getfield 24, 3) := by decide +kernel
theorem d_Cl_copyFrom_5 : decode b_Cl_copyFrom 5 = .ok (.putfield 24, 3) := by decide +kernel
theorem d_Cl_copyFrom_8 : decode b_Cl_copyFrom 8 = .ok (.iconst 0, 1) := by decide +kernel
theorem d_Cl_copyFrom_9 : decode b_Cl_copyFrom 9 = .ok (.istore_n 2, 1) := by decide +kernel
theorem d_Cl_copyFrom_10 : decode b_Cl_copyFrom 10 = .ok (.iload_n 2, 1) := by decide +kernel
theorem d_Cl_copyFrom_11 : decode b_Cl_copyFrom 11 = .ok (.aload_n 0, 1) := by decide +kernel
theorem d_Cl_copyFrom_12 : decode b_Cl_copyFrom 12 = .ok (.getfield 24, 3) := by decide +kernel
theorem d_Cl_copyFrom_15 : decode b_Cl_copyFrom 15 = .ok (.if_icmp .ge 16, 3) := by decide +kernel
theorem d_Cl_copyFrom_18 : decode b_Cl_copyFrom 18 = .ok (.aload_n 0, 1) := by decide +kernel
theorem d_Cl_copyFrom_19 : decode b_Cl_copyFrom 19 = .ok (.iload_n 2, 1) := by decide +kernel
theorem d_Cl_copyFrom_20 : decode b_Cl_copyFrom 20 = .ok (.aload_n 1, 1) := by decide +kernel
theorem d_Cl_copyFrom_21 : decode b_Cl_copyFrom 21 = .ok (.iload_n 2, 1) := by decide +kernel
theorem d_Cl_copyFrom_22 : decode b_Cl_copyFrom 22 = .ok (.invokevirtual 34, 3) := by decide +kernel
theorem d_Cl_copyFrom_25 : decode b_Cl_copyFrom 25 = .ok (.iinc 2 1, 3) := by decide +kernel
theorem d_Cl_copyFrom_28 : decode b_Cl_copyFrom 28 = .ok (.goto (-18), 3) := by decide +kernel
theorem d_Cl_copyFrom_31 : decode b_Cl_copyFrom 31 = .ok (.return_, 1) := by decide +kernel
theorem d_Cl_insert_0 : decode b_Cl_insert 0 = .ok (.aload_n 0, 1) := by decide +kernel
theorem d_Cl_insert_1 : decode b_Cl_insert 1 = .ok (.getfield 24, 3) := by decide +kernel
theorem d_Cl_insert_4 : decode b_Cl_insert 4 = .ok (.istore_n 3, 1) := by decide +kernel
theorem d_Cl_insert_5 : decode b_Cl_insert 5 = .ok (.iload_n 3, 1) := by decide +kernel
theorem d_Cl_insert_6 : decode b_Cl_insert 6 = .ok (.ifCond .le 30, 3) := by decide +kernel
theorem d_Cl_insert_9 : decode b_Cl_insert 9 = .ok (.aload_n 0, 1) := by decide +kernel
theorem d_Cl_insert_10 : decode b_Cl_insert 10 = .ok (.getfield 9, 3) := by decide +kernel
theorem d_Cl_insert_13 : decode b_Cl_insert 13 = .ok (.iload_n 3, 1) := by decide +kernel
theorem d_Cl_insert_14 : decode b_Cl_insert 14 = .ok (.iconst 1, 1) := by decide +kernel
theorem d_Cl_insert_15 : decode b_Cl_insert 15 = .ok (.isub, 1) := by decide +kernel
theorem d_Cl_insert_16 : decode b_Cl_insert 16 = .ok (.iaload, 1) := by decide +kernel
theorem d_Cl_insert_17 : decode b_Cl_insert 17 = .ok (.iload_n 1, 1) := by decide +kernel
theorem d_Cl_insert_18 : decode b_Cl_insert 18 = .ok (.if_icmp .le 18, 3) := by decide +kernel
theorem d_Cl_insert_21 : decode b_Cl_insert 21 = .ok (.aload_n 0, 1) := by decide +kernel
theorem d_Cl_insert_22 : decode b_Cl_insert 22 = .ok (.iload_n 3, 1) := by decide +kernel
theorem d_Cl_insert_23 : decode b_Cl_insert 23 = .ok (.aload_n 0, 1) := by decide +kernel
theorem d_Cl_insert_24 : decode b_Cl_insert 24 = .ok (.iload_n 3, 1) := by decide +kernel
theorem d_Cl_insert_25 : decode b_Cl_insert 25 = .ok (.iconst 1, 1) := by decide +kernel
theorem d_Cl_insert_26 : decode b_Cl_insert 26 = .ok (.isub, 1) := by decide +kernel
theorem d_Cl_insert_27 : decode b_Cl_insert 27 = .ok (.invokevirtual 34, 3) := by decide +kernel
theorem d_Cl_insert_30 : decode b_Cl_insert 30 = .ok (.iinc 3 (-1), 3) := by decide +kernel
theorem d_Cl_insert_33 : decode b_Cl_insert 33 = .ok (.goto (-28), 3) := by decide +kernel
theorem d_Cl_insert_36 : decode b_Cl_insert 36 = .ok (.aload_n 0, 1) := by decide +kernel
theorem d_Cl_insert_37 : decode b_Cl_insert 37 = .ok (.getfield 9, 3) := by decide +kernel
theorem d_Cl_insert_40 : decode b_Cl_insert 40 = .ok (.iload_n 3, 1) := by decide +kernel
theorem d_Cl_insert_41 : decode b_Cl_insert 41 = .ok (.iload_n 1, 1) := by decide +kernel
theorem d_Cl_insert_42 : decode b_Cl_insert 42 = .ok (.iastore, 1) := by decide +kernel
theorem d_Cl_insert_43 : decode b_Cl_insert 43 = .ok (.aload_n 0, 1) := by decide +kernel
theorem d_Cl_insert_44 : decode b_Cl_insert 44 = .ok (.getfield 15, 3) := by decide +kernel
theorem d_Cl_insert_47 : decode b_Cl_insert 47 = .ok (.iload_n 3, 1) := by decide +kernel
theorem d_Cl_insert_48 : decode b_Cl_insert 48 = .ok (.iload_n 2, 1) := by decide +kernel
theorem d_Cl_insert_49 : decode b_Cl_insert 49 = .ok (.iastore, 1) := by decide +kernel
theorem d_Cl_insert_50 : decode b_Cl_insert 50 = .ok (.aload_n 0, 1) := by decide +kernel
theorem d_Cl_insert_51 : decode b_Cl_insert 51 = .ok (.getfield 18, 3) := by decide +kernel
theorem d_Cl_insert_54 : decode b_Cl_insert 54 = .ok (.iload_n 3, 1) := by decide +kernel
theorem d_Cl_insert_55 : decode b_Cl_insert 55 = .ok (.iconst 0, 1) := by decide +kernel
theorem d_Cl_insert_56 : decode b_Cl_insert 56 = .ok (.iastore, 1) := by decide +kernel
theorem d_Cl_insert_57 : decode b_Cl_insert 57 = .ok (.aload_n 0, 1) := by decide +kernel
theorem d_Cl_insert_58 : decode b_Cl_insert 58 = .ok (.getfield 21, 3) := by decide +kernel
theorem d_Cl_insert_61 : decode b_Cl_insert 61 = .ok (.iload_n 3, 1) := by decide +kernel
theorem d_Cl_insert_62 : decode b_Cl_insert 62 = .ok (.iconst 0, 1) := by decide +kernel
theorem d_Cl_insert_63 : decode b_Cl_insert 63 = .ok (.iastore, 1) := by decide +kernel
theorem d_Cl_insert_64 : decode b_Cl_insert 64 = .ok (.aload_n 0, 1) := by decide +kernel
theorem d_Cl_insert_65 : decode b_Cl_insert 65 = .ok (.dup, 1) := by decide +kernel
theorem d_Cl_insert_66 : decode b_Cl_insert 66 = .ok (.getfield 24, 3) := by decide +kernel
theorem d_Cl_insert_69 : decode b_Cl_insert 69 = .ok (.iconst 1, 1) := by decide +kernel
theorem d_Cl_insert_70 : decode b_Cl_insert 70 = .ok (.iadd, 1) := by decide +kernel
theorem d_Cl_insert_71 : decode b_Cl_insert 71 = .ok (.putfield 24, 3) := by decide +kernel
theorem d_Cl_insert_74 : decode b_Cl_insert 74 = .ok (.return_, 1) := by decide +kernel
theorem d_Pk_layPlanned_0 : decode b_Pk_layPlanned 0 = .ok (.aload_n 0, 1) := by decide +kernel
theorem d_Pk_layPlanned_1 : decode b_Pk_layPlanned 1 = .ok (.getfield 10, 3) := by decide +kernel
theorem d_Pk_layPlanned_4 : decode b_Pk_layPlanned 4 = .ok (.aload_n 0, 1) := by decide +kernel
theorem d_Pk_layPlanned_5 : decode b_Pk_layPlanned 5 = .ok (.getfield 27, 3) := by decide +kernel
theorem d_Pk_layPlanned_8 : decode b_Pk_layPlanned 8 = .ok (.aload_n 0, 1) := by decide +kernel
theorem d_Pk_layPlanned_9 : decode b_Pk_layPlanned 9 = .ok (.getfield 37, 3) := by decide +kernel
theorem d_Pk_layPlanned_12 : decode b_Pk_layPlanned 12 = .ok (.invokevirtual 147, 3) := by decide +kernel
theorem d_Pk_layPlanned_15 : decode b_Pk_layPlanned 15 = .ok (.ifCond .eq 5, 3) := by decide +kernel
theorem d_Pk_layPlanned_18 : decode b_Pk_layPlanned 18 = .ok (.iconst 1, 1) := by decide +kernel
theorem d_Pk_layPlanned_19 : decode b_Pk_layPlanned 19 = .ok (.ireturn, 1) := by decide +kernel
theorem d_Pk_layPlanned_20 : decode b_Pk_layPlanned 20 = .ok (.aload_n 0, 1) := by decide +kernel
theorem d_Pk_layPlanned_21 : decode b_Pk_layPlanned 21 = .ok (.getfield 10, 3) := by decide +kernel
theorem d_Pk_layPlanned_24 : decode b_Pk_layPlanned 24 = .ok (.aload_n 0, 1) := by decide +kernel
theorem d_Pk_layPlanned_25 : decode b_Pk_layPlanned 25 = .ok (.getfield 27, 3) := by decide +kernel
theorem d_Pk_layPlanned_28 : decode b_Pk_layPlanned 28 = .ok (.aload_n 0, 1) := by decide +kernel
theorem d_Pk_layPlanned_29 : decode b_Pk_layPlanned 29 = .ok (.getfield 37, 3) := by decide +kernel
theorem d_Pk_layPlanned_32 : decode b_Pk_layPlanned 32 = .ok (.invokevirtual 151, 3) := by decide +kernel
theorem d_Pk_layPlanned_35 : decode b_Pk_layPlanned 35 = .ok (.ifCond .eq 5, 3) := by decide +kernel
theorem d_Pk_layPlanned_38 : decode b_Pk_layPlanned 38 = .ok (.iconst 2, 1) := by decide +kernel
theorem d_Pk_layPlanned_39 : decode b_Pk_layPlanned 39 = .ok (.ireturn, 1) := by decide +kernel
theorem d_Pk_layPlanned_40 : decode b_Pk_layPlanned 40 = .ok (.aload_n 0, 1) := by decide +kernel
theorem d_Pk_layPlanned_41 : decode b_Pk_layPlanned 41 = .ok (.invokevirtual 130, 3) := by decide +kernel
theorem d_Pk_layPlanned_44 : decode b_Pk_layPlanned 44 = .ok (.aload_n 0, 1) := by decide +kernel
theorem d_Pk_layPlanned_45 : decode b_Pk_layPlanned 45 = .ok (.getfield 27, 3) := by decide +kernel
theorem d_Pk_layPlanned_48 : decode b_Pk_layPlanned 48 = .ok (.aload_n 0, 1) := by decide +kernel
theorem d_Pk_layPlanned_49 : decode b_Pk_layPlanned 49 = .ok (.getfield 37, 3) := by decide +kernel
theorem d_Pk_layPlanned_52 : decode b_Pk_layPlanned 52 = .ok (.invokevirtual 154, 3) := by decide +kernel
theorem d_Pk_layPlanned_55 : decode b_Pk_layPlanned 55 = .ok (.ifCond .eq 7, 3) := by decide +kernel
theorem d_Pk_layPlanned_58 : decode b_Pk_layPlanned 58 = .ok (.iconst 3, 1) := by decide +kernel
theorem d_Pk_layPlanned_59 : decode b_Pk_layPlanned 59 = .ok (.goto 4, 3) := by decide +kernel
theorem d_Pk_layPlanned_62 : decode b_Pk_layPlanned 62 = .ok (.iconst (-1), 1) := by decide +kernel
theorem d_Pk_layPlanned_63 : decode b_Pk_layPlanned 63 = .ok (.ireturn, 1) := by decide +kernel
theorem d_Rb_layByPowers_0 : decode b_Rb_layByPowers 0 = .ok (.aload_n 0, 1) := by decide +kernel
theorem d_Rb_layByPowers_1 : decode b_Rb_layByPowers 1 = .ok (.iconst 1, 1) := by decide +kernel
theorem d_Rb_layByPowers_2 : decode b_Rb_layByPowers 2 = .ok (.aload_n 1, 1) := by decide +kernel
theorem d_Rb_layByPowers_3 : decode b_Rb_layByPowers 3 = .ok (.aload_n 2, 1) := by decide +kernel
theorem d_Rb_layByPowers_4 : decode b_Rb_layByPowers 4 = .ok (.invokevirtual 15, 3) := by decide +kernel
theorem d_Rb_layByPowers_7 : decode b_Rb_layByPowers 7 = .ok (.ireturn, 1) := by decide +kernel
theorem d_Rb_layWithBase_0 : decode b_Rb_layWithBase 0 = .ok (.aload_n 0, 1) := by decide +kernel
theorem d_Rb_layWithBase_1 : decode b_Rb_layWithBase 1 = .ok (.iload_n 1, 1) := by decide +kernel
theorem d_Rb_layWithBase_2 : decode b_Rb_layWithBase 2 = .ok (.aload_n 2, 1) := by decide +kernel
theorem d_Rb_layWithBase_3 : decode b_Rb_layWithBase 3 = .ok (.invokevirtual 28, 3) := by decide +kernel
theorem d_Rb_layWithBase_6 : decode b_Rb_layWithBase 6 = .ok (.istore 4, 2) := by decide +kernel
theorem d_Rb_layWithBase_8 : decode b_Rb_layWithBase 8 = .ok (.aload_n 0, 1) := by decide +kernel
theorem d_Rb_layWithBase_9 : decode b_Rb_layWithBase 9 = .ok (.aload_n 2, 1) := by decide +kernel
theorem d_Rb_layWithBase_10 : decode b_Rb_layWithBase 10 = .ok (.invokevirtual 32, 3) := by decide +kernel
theorem d_Rb_layWithBase_13 : decode b_Rb_layWithBase 13 = .ok (.iload 4, 2) := by decide +kernel
theorem d_Rb_layWithBase_15 : decode b_Rb_layWithBase 15 = .ok (.invokevirtual 35, 3) := by decide +kernel
theorem d_Rb_layWithBase_18 : decode b_Rb_layWithBase 18 = .ok (.iload 4, 2) := by decide +kernel
theorem d_Rb_layWithBase_20 : decode b_Rb_layWithBase 20 = .ok (.if_icmp .le 5, 3) := by decide +kernel
theorem d_Rb_layWithBase_23 : decode b_Rb_layWithBase 23 = .ok (.iconst 0, 1) := by decide +kernel
theorem d_Rb_layWithBase_24 : decode b_Rb_layWithBase 24 = .ok (.ireturn, 1) := by decide +kernel
theorem d_Rb_layWithBase_25 : decode b_Rb_layWithBase 25 = .ok (.aload_n 3, 1) := by decide +kernel
theorem d_Rb_layWithBase_26 : decode b_Rb_layWithBase 26 = .ok (.iload 4, 2) := by decide +kernel
theorem d_Rb_layWithBase_28 : decode b_Rb_layWithBase 28 = .ok (.invokevirtual 39, 3) := by decide +kernel
theorem d_Rb_layWithBase_31 : decode b_Rb_layWithBase 31 = .ok (.iload_n 1, 1) := by decide +kernel
theorem d_Rb_layWithBase_32 : decode b_Rb_layWithBase 32 = .ok (.istore 5, 2) := by decide +kernel
theorem d_Rb_layWithBase_34 : decode b_Rb_layWithBase 34 = .ok (.iconst 0, 1) := by decide +kernel
theorem d_Rb_layWithBase_35 : decode b_Rb_layWithBase 35 = .ok (.istore 6, 2) := by decide +kernel
theorem d_Rb_layWithBase_37 : decode b_Rb_layWithBase 37 = .ok (.iload 6, 2) := by decide +kernel
theorem d_Rb_layWithBase_39 : decode b_Rb_layWithBase 39 = .ok (.bipush 6, 2) := by decide +kernel
theorem d_Rb_layWithBase_41 : decode b_Rb_layWithBase 41 = .ok (.if_icmp .gt 30, 3) := by decide +kernel
theorem d_Rb_layWithBase_44 : decode b_Rb_layWithBase 44 = .ok (.iload 5, 2) := by decide +kernel
theorem d_Rb_layWithBase_46 : decode b_Rb_layWithBase 46 = .ok (.iload 4, 2) := by decide +kernel
theorem d_Rb_layWithBase_48 : decode b_Rb_layWithBase 48 = .ok (.if_icmp .gt 23, 3) := by decide +kernel
theorem d_Rb_layWithBase_51 : decode b_Rb_layWithBase 51 = .ok (.aload_n 0, 1) := by decide +kernel
theorem d_Rb_layWithBase_52 : decode b_Rb_layWithBase 52 = .ok (.iload 5, 2) := by decide +kernel
theorem d_Rb_layWithBase_54 : decode b_Rb_layWithBase 54 = .ok (.aload_n 2, 1) := by decide +kernel
theorem d_Rb_layWithBase_55 : decode b_Rb_layWithBase 55 = .ok (.aload_n 3, 1) := by decide +kernel
theorem d_Rb_layWithBase_56 : decode b_Rb_layWithBase 56 = .ok (.invokevirtual 45, 3) := by decide +kernel
theorem d_Rb_layWithBase_59 : decode b_Rb_layWithBase 59 = .ok (.iload 5, 2) := by decide +kernel
theorem d_Rb_layWithBase_61 : decode b_Rb_layWithBase 61 = .ok (.iconst 2, 1) := by decide +kernel
theorem d_Rb_layWithBase_62 : decode b_Rb_layWithBase 62 = .ok (.imul, 1) := by decide +kernel
theorem d_Rb_layWithBase_63 : decode b_Rb_layWithBase 63 = .ok (.istore 5, 2) := by decide +kernel
theorem d_Rb_layWithBase_65 : decode b_Rb_layWithBase 65 = .ok (.iinc 6 1, 3) := by decide +kernel
theorem d_Rb_layWithBase_68 : decode b_Rb_layWithBase 68 = .ok (.goto (-31), 3) := by decide +kernel
theorem d_Rb_layWithBase_71 : decode b_Rb_layWithBase 71 = .ok (.iconst 1, 1) := by decide +kernel
theorem d_Rb_layWithBase_72 : decode b_Rb_layWithBase 72 = .ok (.ireturn, 1) := by decide +kernel
theorem d_Rb_roundAll_0 : decode b_Rb_roundAll 0 = .ok (.iconst 1, 1) := by decide +kernel
theorem d_Rb_roundAll_1 : decode b_Rb_roundAll 1 = .ok (.istore_n 3, 1) := by decide +kernel
theorem d_Rb_roundAll_2 : decode b_Rb_roundAll 2 = .ok (.iconst 0, 1) := by decide +kernel
theorem d_Rb_roundAll_3 : decode b_Rb_roundAll 3 = .ok (.istore 4, 2) := by decide +kernel
theorem d_Rb_roundAll_5 : decode b_Rb_roundAll 5 = .ok (.iload 4, 2) := by decide +kernel
theorem d_Rb_roundAll_7 : decode b_Rb_roundAll 7 = .ok (.aload_n 2, 1) := by decide +kernel
theorem d_Rb_roundAll_8 : decode b_Rb_roundAll 8 = .ok (.invokevirtual 32, 3) := by decide +kernel
theorem d_Rb_roundAll_11 : decode b_Rb_roundAll 11 = .ok (.if_icmp .ge 38, 3) := by decide +kernel
theorem d_Rb_roundAll_14 : decode b_Rb_roundAll 14 = .ok (.aload_n 0, 1) := by decide +kernel
theorem d_Rb_roundAll_15 : decode b_Rb_roundAll 15 = .ok (.getfield 9, 3) := by decide +kernel
theorem d_Rb_roundAll_18 : decode b_Rb_roundAll 18 = .ok (.iload 4, 2) := by decide +kernel
theorem d_Rb_roundAll_20 : decode b_Rb_roundAll 20 = .ok (.aload_n 2, 1) := by decide +kernel
theorem d_Rb_roundAll_21 : decode b_Rb_roundAll 21 = .ok (.iload 4, 2) := by decide +kernel
theorem d_Rb_roundAll_23 : decode b_Rb_roundAll 23 = .ok (.invokevirtual 49, 3) := by decide +kernel
theorem d_Rb_roundAll_26 : decode b_Rb_roundAll 26 = .ok (.iload_n 1, 1) := by decide +kernel
theorem d_Rb_roundAll_27 : decode b_Rb_roundAll 27 = .ok (.invokestatic 53, 3) := by decide +kernel
theorem d_Rb_roundAll_30 : decode b_Rb_roundAll 30 = .ok (.iastore, 1) := by decide +kernel
theorem d_Rb_roundAll_31 : decode b_Rb_roundAll 31 = .ok (.iload_n 3, 1) := by decide +kernel
theorem d_Rb_roundAll_32 : decode b_Rb_roundAll 32 = .ok (.aload_n 0, 1) := by decide +kernel
theorem d_Rb_roundAll_33 : decode b_Rb_roundAll 33 = .ok (.getfield 9, 3) := by decide +kernel
theorem d_Rb_roundAll_36 : decode b_Rb_roundAll 36 = .ok (.iload 4, 2) := by decide +kernel
theorem d_Rb_roundAll_38 : decode b_Rb_roundAll 38 = .ok (.iaload, 1) := by decide +kernel
theorem d_Rb_roundAll_39 : decode b_Rb_roundAll 39 = .ok (.invokestatic 56, 3) := by decide +kernel
theorem d_Rb_roundAll_42 : decode b_Rb_roundAll 42 = .ok (.istore_n 3, 1) := by decide +kernel
theorem d_Rb_roundAll_43 : decode b_Rb_roundAll 43 = .ok (.iinc 4 1, 3) := by decide +kernel
theorem d_Rb_roundAll_46 : decode b_Rb_roundAll 46 = .ok (.goto (-41), 3) := by decide +kernel
theorem d_Rb_roundAll_49 : decode b_Rb_roundAll 49 = .ok (.iload_n 3, 1) := by decide +kernel
theorem d_Rb_roundAll_50 : decode b_Rb_roundAll 50 = .ok (.ireturn, 1) := by decide +kernel
theorem d_Rb_roundDown_0 : decode b_Rb_roundDown 0 = .ok (.iload_n 1, 1) := by decide +kernel
theorem d_Rb_roundDown_1 : decode b_Rb_roundDown 1 = .ok (.istore_n 2, 1) := by decide +kernel
theorem d_Rb_roundDown_2 : decode b_Rb_roundDown 2 = .ok (.iconst 0, 1) := by decide +kernel
theorem d_Rb_roundDown_3 : decode b_Rb_roundDown 3 = .ok (.istore_n 3, 1) := by decide +kernel
theorem d_Rb_roundDown_4 : decode b_Rb_roundDown 4 = .ok (.iload_n 3, 1) := by decide +kernel
theorem d_Rb_roundDown_5 : decode b_Rb_roundDown 5 = .ok (.bipush 6, 2) := by decide +kernel
theorem d_Rb_roundDown_7 : decode b_Rb_roundDown 7 = .ok (.if_icmp .ge 20, 3) := by decide +kernel
theorem d_Rb_roundDown_10 : decode b_Rb_roundDown 10 = .ok (.iload_n 2, 1) := by decide +kernel
theorem d_Rb_roundDown_11 : decode b_Rb_roundDown 11 = .ok (.iconst 2, 1) := by decide +kernel
theorem d_Rb_roundDown_12 : decode b_Rb_roundDown 12 = .ok (.imul, 1) := by decide +kernel
theorem d_Rb_roundDown_13 : decode b_Rb_roundDown 13 = .ok (.iload_n 0, 1) := by decide +kernel
theorem d_Rb_roundDown_14 : decode b_Rb_roundDown 14 = .ok (.if_icmp .gt 13, 3) := by decide +kernel
theorem d_Rb_roundDown_17 : decode b_Rb_roundDown 17 = .ok (.iload_n 2, 1) := by decide +kernel
theorem d_Rb_roundDown_18 : decode b_Rb_roundDown 18 = .ok (.iconst 2, 1) := by decide +kernel
theorem d_Rb_roundDown_19 : decode b_Rb_roundDown 19 = .ok (.imul, 1) := by decide +kernel
theorem d_Rb_roundDown_20 : decode b_Rb_roundDown 20 = .ok (.istore_n 2, 1) := by decide +kernel
theorem d_Rb_roundDown_21 : decode b_Rb_roundDown 21 = .ok (.iinc 3 1, 3) := by decide +kernel
theorem d_Rb_roundDown_24 : decode b_Rb_roundDown 24 = .ok (.goto (-20), 3) := by decide +kernel
theorem d_Rb_roundDown_27 : decode b_Rb_roundDown 27 = .ok (.iload_n 2, 1) := by decide +kernel
theorem d_Rb_roundDown_28 : decode b_Rb_roundDown 28 = .ok (.ireturn, 1) := by decide +kernel
theorem d_Rb_placesNeeded_0 : decode b_Rb_placesNeeded 0 = .ok (.iconst 0, 1) := by decide +kernel
theorem d_Rb_placesNeeded_1 : decode b_Rb_placesNeeded 1 = .ok (.istore_n 3, 1) := by decide +kernel
theorem d_Rb_placesNeeded_2 : decode b_Rb_placesNeeded 2 = .ok (.iconst 0, 1) := by decide +kernel
theorem d_Rb_placesNeeded_3 : decode b_Rb_placesNeeded 3 = .ok (.istore 4, 2) := by decide +kernel
theorem d_Rb_placesNeeded_5 : decode b_Rb_placesNeeded 5 = .ok (.iload 4, 2) := by decide +kernel
theorem d_Rb_placesNeeded_7 : decode b_Rb_placesNeeded 7 = .ok (.iload_n 1, 1) := by decide +kernel
theorem d_Rb_placesNeeded_8 : decode b_Rb_placesNeeded 8 = .ok (.if_icmp .ge 35, 3) := by decide +kernel
theorem d_Rb_placesNeeded_11 : decode b_Rb_placesNeeded 11 = .ok (.iload_n 3, 1) := by decide +kernel
theorem d_Rb_placesNeeded_12 : decode b_Rb_placesNeeded 12 = .ok (.aload_n 0, 1) := by decide +kernel
theorem d_Rb_placesNeeded_13 : decode b_Rb_placesNeeded 13 = .ok (.getfield 9, 3) := by decide +kernel
theorem d_Rb_placesNeeded_16 : decode b_Rb_placesNeeded 16 = .ok (.iload 4, 2) := by decide +kernel
theorem d_Rb_placesNeeded_18 : decode b_Rb_placesNeeded 18 = .ok (.iaload, 1) := by decide +kernel
theorem d_Rb_placesNeeded_19 : decode b_Rb_placesNeeded 19 = .ok (.ifCond .le 15, 3) := by decide +kernel
theorem d_Rb_placesNeeded_22 : decode b_Rb_placesNeeded 22 = .ok (.iload_n 2, 1) := by decide +kernel
theorem d_Rb_placesNeeded_23 : decode b_Rb_placesNeeded 23 = .ok (.aload_n 0, 1) := by decide +kernel
theorem d_Rb_placesNeeded_24 : decode b_Rb_placesNeeded 24 = .ok (.getfield 9, 3) := by decide +kernel
theorem d_Rb_placesNeeded_27 : decode b_Rb_placesNeeded 27 = .ok (.iload 4, 2) := by decide +kernel
theorem d_Rb_placesNeeded_29 : decode b_Rb_placesNeeded 29 = .ok (.iaload, 1) := by decide +kernel
theorem d_Rb_placesNeeded_30 : decode b_Rb_placesNeeded 30 = .ok (.idiv, 1) := by decide +kernel
theorem d_Rb_placesNeeded_31 : decode b_Rb_placesNeeded 31 = .ok (.goto 4, 3) := by decide +kernel
theorem d_Rb_placesNeeded_34 : decode b_Rb_placesNeeded 34 = .ok (.iconst 0, 1) := by decide +kernel
theorem d_Rb_placesNeeded_35 : decode b_Rb_placesNeeded 35 = .ok (.iadd, 1) := by decide +kernel
theorem d_Rb_placesNeeded_36 : decode b_Rb_placesNeeded 36 = .ok (.istore_n 3, 1) := by decide +kernel
theorem d_Rb_placesNeeded_37 : decode b_Rb_placesNeeded 37 = .ok (.iinc 4 1, 3) := by decide +kernel
theorem d_Rb_placesNeeded_40 : decode b_Rb_placesNeeded 40 = .ok (.goto (-35), 3) := by decide +kernel
theorem d_Rb_placesNeeded_43 : decode b_Rb_placesNeeded 43 = .ok (.iload_n 3, 1) := by decide +kernel
theorem d_Rb_placesNeeded_44 : decode b_Rb_placesNeeded 44 = .ok (.ireturn, 1) := by decide +kernel
theorem d_Cy_clear_0 : decode b_Cy_clear 0 = .ok (.aload_n 0, 1) := by decide +kernel
theorem d_Cy_clear_1 : decode b_Cy_clear 1 = .ok (.iload_n 1, 1) := by decide +kernel
theorem d_Cy_clear_2 : decode b_Cy_clear 2 = .ok (.invokevirtual 22, 3) := by decide +kernel
theorem d_Cy_clear_5 : decode b_Cy_clear 5 = .ok (.aload_n 0, 1) := by decide +kernel
theorem d_Cy_clear_6 : decode b_Cy_clear 6 = .ok (.getfield 9, 3) := by decide +kernel
theorem d_Cy_clear_9 : decode b_Cy_clear 9 = .ok (.iconst 0, 1) := by decide +kernel
theorem d_Cy_clear_10 : decode b_Cy_clear 10 = .ok (.aload_n 0, 1) := by decide +kernel
theorem d_Cy_clear_11 : decode b_Cy_clear 11 = .ok (.getfield 15, 3) := by decide +kernel
theorem d_Cy_clear_14 : decode b_Cy_clear 14 = .ok (.iconst 0, 1) := by decide +kernel
theorem d_Cy_clear_15 : decode b_Cy_clear 15 = .ok (.invokestatic 26, 3) := by decide +kernel
theorem d_Cy_clear_18 : decode b_Cy_clear 18 = .ok (.return_, 1) := by decide +kernel
theorem d_Cy_makeRoom_0 : decode b_Cy_makeRoom 0 = .ok (.iload_n 1, 1) := by decide +kernel
theorem d_Cy_makeRoom_1 : decode b_Cy_makeRoom 1 = .ok (.aload_n 0, 1) := by decide +kernel
theorem d_Cy_makeRoom_2 : decode b_Cy_makeRoom 2 = .ok (.getfield 9, 3) := by decide +kernel
theorem d_Cy_makeRoom_5 : decode b_Cy_makeRoom 5 = .ok (.arraylength, 1) := by decide +kernel
theorem d_Cy_makeRoom_6 : decode b_Cy_makeRoom 6 = .ok (.if_icmp .le 10, 3) := by decide +kernel
theorem d_Cy_makeRoom_9 : decode b_Cy_makeRoom 9 = .ok (.aload_n 0, 1) := by decide +kernel
theorem d_Cy_makeRoom_10 : decode b_Cy_makeRoom 10 = .ok (.iload_n 1, 1) := by decide +kernel
theorem d_Cy_makeRoom_11 : decode b_Cy_makeRoom 11 = .ok (.newarray .int, 2) := by decide +kernel
theorem d_Cy_makeRoom_13 : decode b_Cy_makeRoom 13 = .ok (.putfield 9, 3) := by decide +kernel
theorem d_Cy_makeRoom_16 : decode b_Cy_makeRoom 16 = .ok (.aload_n 0, 1) := by decide +kernel
theorem d_Cy_makeRoom_17 : decode b_Cy_makeRoom 17 = .ok (.iload_n 1, 1) := by decide +kernel
theorem d_Cy_makeRoom_18 : decode b_Cy_makeRoom 18 = .ok (.putfield 15, 3) := by decide +kernel
theorem d_Cy_makeRoom_21 : decode b_Cy_makeRoom 21 = .ok (.return_, 1) := by decide +kernel
theorem d_Ar_fill_0 : decode b_Ar_fill 0 = .ok (.aload_n 0, 1) := by decide +kernel
theorem d_Ar_fill_1 : decode b_Ar_fill 1 = .ok (.arraylength, 1) := by decide +kernel
theorem d_Ar_fill_2 : decode b_Ar_fill 2 = .ok (.iload_n 1, 1) := by decide +kernel
theorem d_Ar_fill_3 : decode b_Ar_fill 3 = .ok (.iload_n 2, 1) := by decide +kernel
theorem d_Ar_fill_4 : decode b_Ar_fill 4 = .ok (.invokestatic 13, 3) := by decide +kernel
theorem d_Ar_fill_7 : decode b_Ar_fill 7 = .ok (.iload_n 1, 1) := by decide +kernel
theorem d_Ar_fill_8 : decode b_Ar_fill 8 = .ok (.istore 4, 2) := by decide +kernel
theorem d_Ar_fill_10 : decode b_Ar_fill 10 = .ok (.iload 4, 2) := by decide +kernel
theorem d_Ar_fill_12 : decode b_Ar_fill 12 = .ok (.iload_n 2, 1) := by decide +kernel
theorem d_Ar_fill_13 : decode b_Ar_fill 13 = .ok (.if_icmp .ge 14, 3) := by decide +kernel
theorem d_Ar_fill_16 : decode b_Ar_fill 16 = .ok (.aload_n 0, 1) := by decide +kernel
theorem d_Ar_fill_17 : decode b_Ar_fill 17 = .ok (.iload 4, 2) := by decide +kernel
theorem d_Ar_fill_19 : decode b_Ar_fill 19 = .ok (.iload_n 3, 1) := by decide +kernel
theorem d_Ar_fill_20 : decode b_Ar_fill 20 = .ok (.iastore, 1) := by decide +kernel
theorem d_Ar_fill_21 : decode b_Ar_fill 21 = .ok (.iinc 4 1, 3) := by decide +kernel
theorem d_Ar_fill_24 : decode b_Ar_fill 24 = .ok (.goto (-14), 3) := by decide +kernel
theorem d_Ar_fill_27 : decode b_Ar_fill 27 = .ok (.return_, 1) := by decide +kernel
theorem d_Ar_rangeCheck_0 : decode b_Ar_rangeCheck 0 = .ok (.iload_n 1, 1) := by decide +kernel
theorem d_Ar_rangeCheck_1 : decode b_Ar_rangeCheck 1 = .ok (.iload_n 2, 1) := by decide +kernel
theorem d_Ar_rangeCheck_2 : decode b_Ar_rangeCheck 2 = .ok (.if_icmp .le 44, 3) := by decide +kernel
theorem d_Ar_rangeCheck_5 : decode b_Ar_rangeCheck 5 = .ok (.new 43, 3) := by decide +kernel
theorem d_Ar_rangeCheck_8 : decode b_Ar_rangeCheck 8 = .ok (.dup, 1) := by decide +kernel
theorem d_Ar_rangeCheck_9 : decode b_Ar_rangeCheck 9 = .ok (.new 45, 3) := by decide +kernel
theorem d_Ar_rangeCheck_12 : decode b_Ar_rangeCheck 12 = .ok (.dup, 1) := by decide +kernel
theorem d_Ar_rangeCheck_13 : decode b_Ar_rangeCheck 13 = .ok (.invokespecial 47, 3) := by decide +kernel
theorem d_Ar_rangeCheck_16 : decode b_Ar_rangeCheck 16 = .ok (.ldc 48, 2) := by decide +kernel
theorem d_Ar_rangeCheck_18 : decode b_Ar_rangeCheck 18 = .ok (.invokevirtual 50, 3) := by decide +kernel
theorem d_Ar_rangeCheck_21 : decode b_Ar_rangeCheck 21 = .ok (.iload_n 1, 1) := by decide +kernel
theorem d_Ar_rangeCheck_22 : decode b_Ar_rangeCheck 22 = .ok (.invokevirtual 54, 3) := by decide +kernel
theorem d_Ar_rangeCheck_25 : decode b_Ar_rangeCheck 25 = .ok (.ldc 57, 2) := by decide +kernel
theorem d_Ar_rangeCheck_27 : decode b_Ar_rangeCheck 27 = .ok (.invokevirtual 50, 3) := by decide +kernel
theorem d_Ar_rangeCheck_30 : decode b_Ar_rangeCheck 30 = .ok (.iload_n 2, 1) := by decide +kernel
theorem d_Ar_rangeCheck_31 : decode b_Ar_rangeCheck 31 = .ok (.invokevirtual 54, 3) := by decide +kernel
end
section
theorem d_Ar_rangeCheck_34 : decode b_Ar_rangeCheck 34 = .ok (.ldc 59, 2) := by decide +kernel
theorem d_Ar_rangeCheck_36 : decode b_Ar_rangeCheck 36 = .ok (.invokevirtual 50, 3) := by decide +kernel
theorem d_Ar_rangeCheck_39 : decode b_Ar_rangeCheck 39 = .ok (.invokevirtual 61, 3) := by decide +kernel
theorem d_Ar_rangeCheck_42 : decode b_Ar_rangeCheck 42 = .ok (.invokespecial 65, 3) := by decide +kernel
theorem d_Ar_rangeCheck_45 : decode b_Ar_rangeCheck 45 = .ok (.athrow, 1) := by decide +kernel
theorem d_Ar_rangeCheck_46 : decode b_Ar_rangeCheck 46 = .ok (.iload_n 1, 1) := by decide +kernel
theorem d_Ar_rangeCheck_47 : decode b_Ar_rangeCheck 47 = .ok (.ifCond .ge 12, 3) := by decide +kernel
theorem d_Ar_rangeCheck_50 : decode b_Ar_rangeCheck 50 = .ok (.new 68, 3) := by decide +kernel
theorem d_Ar_rangeCheck_53 : decode b_Ar_rangeCheck 53 = .ok (.dup, 1) := by decide +kernel
theorem d_Ar_rangeCheck_54 : decode b_Ar_rangeCheck 54 = .ok (.iload_n 1, 1) := by decide +kernel
theorem d_Ar_rangeCheck_55 : decode b_Ar_rangeCheck 55 = .ok (.invokespecial 70, 3) := by decide +kernel
theorem d_Ar_rangeCheck_58 : decode b_Ar_rangeCheck 58 = .ok (.athrow, 1) := by decide +kernel
theorem d_Ar_rangeCheck_59 : decode b_Ar_rangeCheck 59 = .ok (.iload_n 2, 1) := by decide +kernel
theorem d_Ar_rangeCheck_60 : decode b_Ar_rangeCheck 60 = .ok (.iload_n 0, 1) := by decide +kernel
theorem d_Ar_rangeCheck_61 : decode b_Ar_rangeCheck 61 = .ok (.if_icmp .le 12, 3) := by decide +kernel
theorem d_Ar_rangeCheck_64 : decode b_Ar_rangeCheck 64 = .ok (.new 68, 3) := by decide +kernel
theorem d_Ar_rangeCheck_67 : decode b_Ar_rangeCheck 67 = .ok (.dup, 1) := by decide +kernel
theorem d_Ar_rangeCheck_68 : decode b_Ar_rangeCheck 68 = .ok (.iload_n 2, 1) := by decide +kernel
theorem d_Ar_rangeCheck_69 : decode b_Ar_rangeCheck 69 = .ok (.invokespecial 70, 3) := by decide +kernel
theorem d_Ar_rangeCheck_72 : decode b_Ar_rangeCheck 72 = .ok (.athrow, 1) := by decide +kernel
theorem d_Ar_rangeCheck_73 : decode b_Ar_rangeCheck 73 = .ok (.return_, 1) := by decide +kernel
theorem d_Rb_giveToAllWith_0 : decode b_Rb_giveToAllWith 0 = .ok (.iconst 0, 1) := by decide +kernel
theorem d_Rb_giveToAllWith_1 : decode b_Rb_giveToAllWith 1 = .ok (.istore 4, 2) := by decide +kernel
theorem d_Rb_giveToAllWith_3 : decode b_Rb_giveToAllWith 3 = .ok (.iload 4, 2) := by decide +kernel
theorem d_Rb_giveToAllWith_5 : decode b_Rb_giveToAllWith 5 = .ok (.aload_n 2, 1) := by decide +kernel
theorem d_Rb_giveToAllWith_6 : decode b_Rb_giveToAllWith 6 = .ok (.invokevirtual 32, 3) := by decide +kernel
theorem d_Rb_giveToAllWith_9 : decode b_Rb_giveToAllWith 9 = .ok (.if_icmp .ge 31, 3) := by decide +kernel
theorem d_Rb_giveToAllWith_12 : decode b_Rb_giveToAllWith 12 = .ok (.aload_n 0, 1) := by decide +kernel
theorem d_Rb_giveToAllWith_13 : decode b_Rb_giveToAllWith 13 = .ok (.getfield 9, 3) := by decide +kernel
theorem d_Rb_giveToAllWith_16 : decode b_Rb_giveToAllWith 16 = .ok (.iload 4, 2) := by decide +kernel
theorem d_Rb_giveToAllWith_18 : decode b_Rb_giveToAllWith 18 = .ok (.iaload, 1) := by decide +kernel
theorem d_Rb_giveToAllWith_19 : decode b_Rb_giveToAllWith 19 = .ok (.iload_n 1, 1) := by decide +kernel
theorem d_Rb_giveToAllWith_20 : decode b_Rb_giveToAllWith 20 = .ok (.if_icmp .ne 14, 3) := by decide +kernel
theorem d_Rb_giveToAllWith_23 : decode b_Rb_giveToAllWith 23 = .ok (.aload_n 3, 1) := by decide +kernel
theorem d_Rb_giveToAllWith_24 : decode b_Rb_giveToAllWith 24 = .ok (.aload_n 2, 1) := by decide +kernel
theorem d_Rb_giveToAllWith_25 : decode b_Rb_giveToAllWith 25 = .ok (.iload 4, 2) := by decide +kernel
theorem d_Rb_giveToAllWith_27 : decode b_Rb_giveToAllWith 27 = .ok (.invokevirtual 61, 3) := by decide +kernel
theorem d_Rb_giveToAllWith_30 : decode b_Rb_giveToAllWith 30 = .ok (.iload_n 1, 1) := by decide +kernel
theorem d_Rb_giveToAllWith_31 : decode b_Rb_giveToAllWith 31 = .ok (.invokevirtual 64, 3) := by decide +kernel
theorem d_Rb_giveToAllWith_34 : decode b_Rb_giveToAllWith 34 = .ok (.iinc 4 1, 3) := by decide +kernel
theorem d_Rb_giveToAllWith_37 : decode b_Rb_giveToAllWith 37 = .ok (.goto (-34), 3) := by decide +kernel
theorem d_Rb_giveToAllWith_40 : decode b_Rb_giveToAllWith 40 = .ok (.return_, 1) := by decide +kernel
theorem d_Cy_giveTo_0 : decode b_Cy_giveTo 0 = .ok (.aload_n 0, 1) := by decide +kernel
theorem d_Cy_giveTo_1 : decode b_Cy_giveTo 1 = .ok (.invokevirtual 38, 3) := by decide +kernel
theorem d_Cy_giveTo_4 : decode b_Cy_giveTo 4 = .ok (.istore_n 3, 1) := by decide +kernel
theorem d_Cy_giveTo_5 : decode b_Cy_giveTo 5 = .ok (.iload_n 2, 1) := by decide +kernel
theorem d_Cy_giveTo_6 : decode b_Cy_giveTo 6 = .ok (.ifCond .le 25, 3) := by decide +kernel
theorem d_Cy_giveTo_9 : decode b_Cy_giveTo 9 = .ok (.iload_n 3, 1) := by decide +kernel
theorem d_Cy_giveTo_10 : decode b_Cy_giveTo 10 = .ok (.aload_n 0, 1) := by decide +kernel
theorem d_Cy_giveTo_11 : decode b_Cy_giveTo 11 = .ok (.getfield 15, 3) := by decide +kernel
theorem d_Cy_giveTo_14 : decode b_Cy_giveTo 14 = .ok (.if_icmp .ge 17, 3) := by decide +kernel
theorem d_Cy_giveTo_17 : decode b_Cy_giveTo 17 = .ok (.aload_n 0, 1) := by decide +kernel
theorem d_Cy_giveTo_18 : decode b_Cy_giveTo 18 = .ok (.getfield 9, 3) := by decide +kernel
theorem d_Cy_giveTo_21 : decode b_Cy_giveTo 21 = .ok (.iload_n 3, 1) := by decide +kernel
theorem d_Cy_giveTo_22 : decode b_Cy_giveTo 22 = .ok (.iload_n 1, 1) := by decide +kernel
theorem d_Cy_giveTo_23 : decode b_Cy_giveTo 23 = .ok (.iastore, 1) := by decide +kernel
theorem d_Cy_giveTo_24 : decode b_Cy_giveTo 24 = .ok (.iload_n 3, 1) := by decide +kernel
theorem d_Cy_giveTo_25 : decode b_Cy_giveTo 25 = .ok (.iload_n 2, 1) := by decide +kernel
theorem d_Cy_giveTo_26 : decode b_Cy_giveTo 26 = .ok (.iadd, 1) := by decide +kernel
theorem d_Cy_giveTo_27 : decode b_Cy_giveTo 27 = .ok (.istore_n 3, 1) := by decide +kernel
theorem d_Cy_giveTo_28 : decode b_Cy_giveTo 28 = .ok (.goto (-23), 3) := by decide +kernel
theorem d_Cy_giveTo_31 : decode b_Cy_giveTo 31 = .ok (.return_, 1) := by decide +kernel
theorem d_Cy_firstFree_0 : decode b_Cy_firstFree 0 = .ok (.iconst 0, 1) := by decide +kernel
theorem d_Cy_firstFree_1 : decode b_Cy_firstFree 1 = .ok (.istore_n 1, 1) := by decide +kernel
theorem d_Cy_firstFree_2 : decode b_Cy_firstFree 2 = .ok (.iload_n 1, 1) := by decide +kernel
theorem d_Cy_firstFree_3 : decode b_Cy_firstFree 3 = .ok (.aload_n 0, 1) := by decide +kernel
theorem d_Cy_firstFree_4 : decode b_Cy_firstFree 4 = .ok (.getfield 15, 3) := by decide +kernel
theorem d_Cy_firstFree_7 : decode b_Cy_firstFree 7 = .ok (.if_icmp .ge 18, 3) := by decide +kernel
theorem d_Cy_firstFree_10 : decode b_Cy_firstFree 10 = .ok (.aload_n 0, 1) := by decide +kernel
theorem d_Cy_firstFree_11 : decode b_Cy_firstFree 11 = .ok (.getfield 9, 3) := by decide +kernel
theorem d_Cy_firstFree_14 : decode b_Cy_firstFree 14 = .ok (.iload_n 1, 1) := by decide +kernel
theorem d_Cy_firstFree_15 : decode b_Cy_firstFree 15 = .ok (.iaload, 1) := by decide +kernel
theorem d_Cy_firstFree_16 : decode b_Cy_firstFree 16 = .ok (.ifCond .eq 9, 3) := by decide +kernel
theorem d_Cy_firstFree_19 : decode b_Cy_firstFree 19 = .ok (.iinc 1 1, 3) := by decide +kernel
theorem d_Cy_firstFree_22 : decode b_Cy_firstFree 22 = .ok (.goto (-20), 3) := by decide +kernel
theorem d_Cy_firstFree_25 : decode b_Cy_firstFree 25 = .ok (.iload_n 1, 1) := by decide +kernel
theorem d_Cy_firstFree_26 : decode b_Cy_firstFree 26 = .ok (.ireturn, 1) := by decide +kernel
theorem d_Rb_layByBases_0 : decode b_Rb_layByBases 0 = .ok (.aload_n 1, 1) := by decide +kernel
theorem d_Rb_layByBases_1 : decode b_Rb_layByBases 1 = .ok (.invokevirtual 19, 3) := by decide +kernel
theorem d_Rb_layByBases_4 : decode b_Rb_layByBases 4 = .ok (.istore_n 3, 1) := by decide +kernel
theorem d_Rb_layByBases_5 : decode b_Rb_layByBases 5 = .ok (.iconst 0, 1) := by decide +kernel
theorem d_Rb_layByBases_6 : decode b_Rb_layByBases 6 = .ok (.istore 4, 2) := by decide +kernel
theorem d_Rb_layByBases_8 : decode b_Rb_layByBases 8 = .ok (.iload 4, 2) := by decide +kernel
theorem d_Rb_layByBases_10 : decode b_Rb_layByBases 10 = .ok (.getstatic 25, 3) := by decide +kernel
theorem d_Rb_layByBases_13 : decode b_Rb_layByBases 13 = .ok (.arraylength, 1) := by decide +kernel
theorem d_Rb_layByBases_14 : decode b_Rb_layByBases 14 = .ok (.if_icmp .ge 36, 3) := by decide +kernel
theorem d_Rb_layByBases_17 : decode b_Rb_layByBases 17 = .ok (.getstatic 25, 3) := by decide +kernel
theorem d_Rb_layByBases_20 : decode b_Rb_layByBases 20 = .ok (.iload 4, 2) := by decide +kernel
theorem d_Rb_layByBases_22 : decode b_Rb_layByBases 22 = .ok (.iaload, 1) := by decide +kernel
theorem d_Rb_layByBases_23 : decode b_Rb_layByBases 23 = .ok (.iload_n 3, 1) := by decide +kernel
theorem d_Rb_layByBases_24 : decode b_Rb_layByBases 24 = .ok (.if_icmp .gt 26, 3) := by decide +kernel
theorem d_Rb_layByBases_27 : decode b_Rb_layByBases 27 = .ok (.aload_n 0, 1) := by decide +kernel
theorem d_Rb_layByBases_28 : decode b_Rb_layByBases 28 = .ok (.getstatic 25, 3) := by decide +kernel
theorem d_Rb_layByBases_31 : decode b_Rb_layByBases 31 = .ok (.iload 4, 2) := by decide +kernel
theorem d_Rb_layByBases_33 : decode b_Rb_layByBases 33 = .ok (.iaload, 1) := by decide +kernel
theorem d_Rb_layByBases_34 : decode b_Rb_layByBases 34 = .ok (.aload_n 1, 1) := by decide +kernel
theorem d_Rb_layByBases_35 : decode b_Rb_layByBases 35 = .ok (.aload_n 2, 1) := by decide +kernel
theorem d_Rb_layByBases_36 : decode b_Rb_layByBases 36 = .ok (.invokevirtual 15, 3) := by decide +kernel
theorem d_Rb_layByBases_39 : decode b_Rb_layByBases 39 = .ok (.ifCond .eq 5, 3) := by decide +kernel
theorem d_Rb_layByBases_42 : decode b_Rb_layByBases 42 = .ok (.iconst 1, 1) := by decide +kernel
theorem d_Rb_layByBases_43 : decode b_Rb_layByBases 43 = .ok (.ireturn, 1) := by decide +kernel
theorem d_Rb_layByBases_44 : decode b_Rb_layByBases 44 = .ok (.iinc 4 1, 3) := by decide +kernel
theorem d_Rb_layByBases_47 : decode b_Rb_layByBases 47 = .ok (.goto (-39), 3) := by decide +kernel
theorem d_Rb_layByBases_50 : decode b_Rb_layByBases 50 = .ok (.iconst 0, 1) := by decide +kernel
theorem d_Rb_layByBases_51 : decode b_Rb_layByBases 51 = .ok (.ireturn, 1) := by decide +kernel
theorem d_Cl_leastSpan_0 : decode b_Cl_leastSpan 0 = .ok (.bipush 40, 2) := by decide +kernel
theorem d_Cl_leastSpan_2 : decode b_Cl_leastSpan 2 = .ok (.istore_n 1, 1) := by decide +kernel
theorem d_Cl_leastSpan_3 : decode b_Cl_leastSpan 3 = .ok (.iconst 0, 1) := by decide +kernel
theorem d_Cl_leastSpan_4 : decode b_Cl_leastSpan 4 = .ok (.istore_n 2, 1) := by decide +kernel
theorem d_Cl_leastSpan_5 : decode b_Cl_leastSpan 5 = .ok (.iload_n 2, 1) := by decide +kernel
theorem d_Cl_leastSpan_6 : decode b_Cl_leastSpan 6 = .ok (.aload_n 0, 1) := by decide +kernel
theorem d_Cl_leastSpan_7 : decode b_Cl_leastSpan 7 = .ok (.getfield 24, 3) := by decide +kernel
theorem d_Cl_leastSpan_10 : decode b_Cl_leastSpan 10 = .ok (.if_icmp .ge 20, 3) := by decide +kernel
theorem d_Cl_leastSpan_13 : decode b_Cl_leastSpan 13 = .ok (.iload_n 1, 1) := by decide +kernel
theorem d_Cl_leastSpan_14 : decode b_Cl_leastSpan 14 = .ok (.aload_n 0, 1) := by decide +kernel
theorem d_Cl_leastSpan_15 : decode b_Cl_leastSpan 15 = .ok (.getfield 15, 3) := by decide +kernel
theorem d_Cl_leastSpan_18 : decode b_Cl_leastSpan 18 = .ok (.iload_n 2, 1) := by decide +kernel
theorem d_Cl_leastSpan_19 : decode b_Cl_leastSpan 19 = .ok (.iaload, 1) := by decide +kernel
theorem d_Cl_leastSpan_20 : decode b_Cl_leastSpan 20 = .ok (.invokestatic 28, 3) := by decide +kernel
theorem d_Cl_leastSpan_23 : decode b_Cl_leastSpan 23 = .ok (.istore_n 1, 1) := by decide +kernel
theorem d_Cl_leastSpan_24 : decode b_Cl_leastSpan 24 = .ok (.iinc 2 1, 3) := by decide +kernel
theorem d_Cl_leastSpan_27 : decode b_Cl_leastSpan 27 = .ok (.goto (-22), 3) := by decide +kernel
theorem d_Cl_leastSpan_30 : decode b_Cl_leastSpan 30 = .ok (.iload_n 1, 1) := by decide +kernel
theorem d_Cl_leastSpan_31 : decode b_Cl_leastSpan 31 = .ok (.ireturn, 1) := by decide +kernel
theorem d_Sb_lay_0 : decode b_Sb_lay 0 = .ok (.aload_n 0, 1) := by decide +kernel
theorem d_Sb_lay_1 : decode b_Sb_lay 1 = .ok (.aload_n 1, 1) := by decide +kernel
theorem d_Sb_lay_2 : decode b_Sb_lay 2 = .ok (.invokevirtual 46, 3) := by decide +kernel
theorem d_Sb_lay_5 : decode b_Sb_lay 5 = .ok (.ifCond .eq 10, 3) := by decide +kernel
theorem d_Sb_lay_8 : decode b_Sb_lay 8 = .ok (.aload_n 0, 1) := by decide +kernel
theorem d_Sb_lay_9 : decode b_Sb_lay 9 = .ok (.invokevirtual 50, 3) := by decide +kernel
theorem d_Sb_lay_12 : decode b_Sb_lay 12 = .ok (.ifCond .ne 5, 3) := by decide +kernel
theorem d_Sb_lay_15 : decode b_Sb_lay 15 = .ok (.iconst 0, 1) := by decide +kernel
theorem d_Sb_lay_16 : decode b_Sb_lay 16 = .ok (.ireturn, 1) := by decide +kernel
theorem d_Sb_lay_17 : decode b_Sb_lay 17 = .ok (.aload_n 0, 1) := by decide +kernel
theorem d_Sb_lay_18 : decode b_Sb_lay 18 = .ok (.getfield 40, 3) := by decide +kernel
theorem d_Sb_lay_21 : decode b_Sb_lay 21 = .ok (.iconst 0, 1) := by decide +kernel
theorem d_Sb_lay_22 : decode b_Sb_lay 22 = .ok (.aload_n 0, 1) := by decide +kernel
theorem d_Sb_lay_23 : decode b_Sb_lay 23 = .ok (.getfield 25, 3) := by decide +kernel
theorem d_Sb_lay_26 : decode b_Sb_lay 26 = .ok (.iconst (-1), 1) := by decide +kernel
theorem d_Sb_lay_27 : decode b_Sb_lay 27 = .ok (.invokestatic 54, 3) := by decide +kernel
theorem d_Sb_lay_30 : decode b_Sb_lay 30 = .ok (.aload_n 0, 1) := by decide +kernel
theorem d_Sb_lay_31 : decode b_Sb_lay 31 = .ok (.getfield 25, 3) := by decide +kernel
theorem d_Sb_lay_34 : decode b_Sb_lay 34 = .ok (.iconst 1, 1) := by decide +kernel
theorem d_Sb_lay_35 : decode b_Sb_lay 35 = .ok (.isub, 1) := by decide +kernel
theorem d_Sb_lay_36 : decode b_Sb_lay 36 = .ok (.istore_n 3, 1) := by decide +kernel
theorem d_Sb_lay_37 : decode b_Sb_lay 37 = .ok (.iconst 0, 1) := by decide +kernel
theorem d_Sb_lay_38 : decode b_Sb_lay 38 = .ok (.istore 4, 2) := by decide +kernel
theorem d_Sb_lay_40 : decode b_Sb_lay 40 = .ok (.iload 4, 2) := by decide +kernel
theorem d_Sb_lay_42 : decode b_Sb_lay 42 = .ok (.aload_n 0, 1) := by decide +kernel
theorem d_Sb_lay_43 : decode b_Sb_lay 43 = .ok (.getfield 25, 3) := by decide +kernel
theorem d_Sb_lay_46 : decode b_Sb_lay 46 = .ok (.if_icmp .ge 56, 3) := by decide +kernel
theorem d_Sb_lay_49 : decode b_Sb_lay 49 = .ok (.aload_n 0, 1) := by decide +kernel
theorem d_Sb_lay_50 : decode b_Sb_lay 50 = .ok (.getfield 40, 3) := by decide +kernel
theorem d_Sb_lay_53 : decode b_Sb_lay 53 = .ok (.iload_n 3, 1) := by decide +kernel
theorem d_Sb_lay_54 : decode b_Sb_lay 54 = .ok (.iaload, 1) := by decide +kernel
theorem d_Sb_lay_55 : decode b_Sb_lay 55 = .ok (.iconst (-1), 1) := by decide +kernel
theorem d_Sb_lay_56 : decode b_Sb_lay 56 = .ok (.if_icmp .ne 46, 3) := by decide +kernel
theorem d_Sb_lay_59 : decode b_Sb_lay 59 = .ok (.aload_n 0, 1) := by decide +kernel
theorem d_Sb_lay_60 : decode b_Sb_lay 60 = .ok (.iload_n 3, 1) := by decide +kernel
theorem d_Sb_lay_61 : decode b_Sb_lay 61 = .ok (.invokevirtual 60, 3) := by decide +kernel
theorem d_Sb_lay_64 : decode b_Sb_lay 64 = .ok (.istore 5, 2) := by decide +kernel
theorem d_Sb_lay_66 : decode b_Sb_lay 66 = .ok (.aload_n 0, 1) := by decide +kernel
theorem d_Sb_lay_67 : decode b_Sb_lay 67 = .ok (.getfield 40, 3) := by decide +kernel
theorem d_Sb_lay_70 : decode b_Sb_lay 70 = .ok (.iload_n 3, 1) := by decide +kernel
theorem d_Sb_lay_71 : decode b_Sb_lay 71 = .ok (.iload 4, 2) := by decide +kernel
theorem d_Sb_lay_73 : decode b_Sb_lay 73 = .ok (.iastore, 1) := by decide +kernel
theorem d_Sb_lay_74 : decode b_Sb_lay 74 = .ok (.aload_n 0, 1) := by decide +kernel
theorem d_Sb_lay_75 : decode b_Sb_lay 75 = .ok (.getfield 43, 3) := by decide +kernel
theorem d_Sb_lay_78 : decode b_Sb_lay 78 = .ok (.iload 4, 2) := by decide +kernel
theorem d_Sb_lay_80 : decode b_Sb_lay 80 = .ok (.aload_n 0, 1) := by decide +kernel
theorem d_Sb_lay_81 : decode b_Sb_lay 81 = .ok (.getfield 9, 3) := by decide +kernel
theorem d_Sb_lay_84 : decode b_Sb_lay 84 = .ok (.iload 5, 2) := by decide +kernel
theorem d_Sb_lay_86 : decode b_Sb_lay 86 = .ok (.iaload, 1) := by decide +kernel
theorem d_Sb_lay_87 : decode b_Sb_lay 87 = .ok (.iastore, 1) := by decide +kernel
theorem d_Sb_lay_88 : decode b_Sb_lay 88 = .ok (.aload_n 0, 1) := by decide +kernel
theorem d_Sb_lay_89 : decode b_Sb_lay 89 = .ok (.iload_n 3, 1) := by decide +kernel
theorem d_Sb_lay_90 : decode b_Sb_lay 90 = .ok (.iload 5, 2) := by decide +kernel
theorem d_Sb_lay_92 : decode b_Sb_lay 92 = .ok (.invokevirtual 64, 3) := by decide +kernel
theorem d_Sb_lay_95 : decode b_Sb_lay 95 = .ok (.istore_n 3, 1) := by decide +kernel
theorem d_Sb_lay_96 : decode b_Sb_lay 96 = .ok (.iinc 4 1, 3) := by decide +kernel
theorem d_Sb_lay_99 : decode b_Sb_lay 99 = .ok (.goto (-59), 3) := by decide +kernel
theorem d_Sb_lay_102 : decode b_Sb_lay 102 = .ok (.aload_n 2, 1) := by decide +kernel
theorem d_Sb_lay_103 : decode b_Sb_lay 103 = .ok (.aload_n 0, 1) := by decide +kernel
theorem d_Sb_lay_104 : decode b_Sb_lay 104 = .ok (.getfield 43, 3) := by decide +kernel
theorem d_Sb_lay_107 : decode b_Sb_lay 107 = .ok (.aload_n 0, 1) := by decide +kernel
theorem d_Sb_lay_108 : decode b_Sb_lay 108 = .ok (.getfield 40, 3) := by decide +kernel
theorem d_Sb_lay_111 : decode b_Sb_lay 111 = .ok (.iload_n 3, 1) := by decide +kernel
theorem d_Sb_lay_112 : decode b_Sb_lay 112 = .ok (.iaload, 1) := by decide +kernel
theorem d_Sb_lay_113 : decode b_Sb_lay 113 = .ok (.iload 4, 2) := by decide +kernel
theorem d_Sb_lay_115 : decode b_Sb_lay 115 = .ok (.aload_n 0, 1) := by decide +kernel
theorem d_Sb_lay_116 : decode b_Sb_lay 116 = .ok (.getfield 40, 3) := by decide +kernel
theorem d_Sb_lay_119 : decode b_Sb_lay 119 = .ok (.iload_n 3, 1) := by decide +kernel
theorem d_Sb_lay_120 : decode b_Sb_lay 120 = .ok (.iaload, 1) := by decide +kernel
theorem d_Sb_lay_121 : decode b_Sb_lay 121 = .ok (.isub, 1) := by decide +kernel
theorem d_Sb_lay_122 : decode b_Sb_lay 122 = .ok (.invokevirtual 68, 3) := by decide +kernel
theorem d_Sb_lay_125 : decode b_Sb_lay 125 = .ok (.iconst 1, 1) := by decide +kernel
theorem d_Sb_lay_126 : decode b_Sb_lay 126 = .ok (.ireturn, 1) := by decide +kernel
theorem d_Sb_firstSafeTurn_0 : decode b_Sb_firstSafeTurn 0 = .ok (.iconst 0, 1) := by decide +kernel
theorem d_Sb_firstSafeTurn_1 : decode b_Sb_firstSafeTurn 1 = .ok (.istore_n 2, 1) := by decide +kernel
theorem d_Sb_firstSafeTurn_2 : decode b_Sb_firstSafeTurn 2 = .ok (.iload_n 2, 1) := by decide +kernel
theorem d_Sb_firstSafeTurn_3 : decode b_Sb_firstSafeTurn 3 = .ok (.aload_n 0, 1) := by decide +kernel
theorem d_Sb_firstSafeTurn_4 : decode b_Sb_firstSafeTurn 4 = .ok (.getfield 21, 3) := by decide +kernel
theorem d_Sb_firstSafeTurn_7 : decode b_Sb_firstSafeTurn 7 = .ok (.iconst 1, 1) := by decide +kernel
theorem d_Sb_firstSafeTurn_8 : decode b_Sb_firstSafeTurn 8 = .ok (.isub, 1) := by decide +kernel
theorem d_Sb_firstSafeTurn_9 : decode b_Sb_firstSafeTurn 9 = .ok (.if_icmp .ge 18, 3) := by decide +kernel
theorem d_Sb_firstSafeTurn_12 : decode b_Sb_firstSafeTurn 12 = .ok (.aload_n 0, 1) := by decide +kernel
theorem d_Sb_firstSafeTurn_13 : decode b_Sb_firstSafeTurn 13 = .ok (.iload_n 1, 1) := by decide +kernel
theorem d_Sb_firstSafeTurn_14 : decode b_Sb_firstSafeTurn 14 = .ok (.iload_n 2, 1) := by decide +kernel
theorem d_Sb_firstSafeTurn_15 : decode b_Sb_firstSafeTurn 15 = .ok (.invokevirtual 112, 3) := by decide +kernel
theorem d_Sb_firstSafeTurn_18 : decode b_Sb_firstSafeTurn 18 = .ok (.ifCond .ne 9, 3) := by decide +kernel
theorem d_Sb_firstSafeTurn_21 : decode b_Sb_firstSafeTurn 21 = .ok (.iinc 2 1, 3) := by decide +kernel
theorem d_Sb_firstSafeTurn_24 : decode b_Sb_firstSafeTurn 24 = .ok (.goto (-22), 3) := by decide +kernel
theorem d_Sb_firstSafeTurn_27 : decode b_Sb_firstSafeTurn 27 = .ok (.iload_n 2, 1) := by decide +kernel
theorem d_Sb_firstSafeTurn_28 : decode b_Sb_firstSafeTurn 28 = .ok (.ireturn, 1) := by decide +kernel
theorem d_Sb_leadsToSafe_0 : decode b_Sb_leadsToSafe 0 = .ok (.aload_n 0, 1) := by decide +kernel
theorem d_Sb_leadsToSafe_1 : decode b_Sb_leadsToSafe 1 = .ok (.iload_n 1, 1) := by decide +kernel
theorem d_Sb_leadsToSafe_2 : decode b_Sb_leadsToSafe 2 = .ok (.iload_n 2, 1) := by decide +kernel
theorem d_Sb_leadsToSafe_3 : decode b_Sb_leadsToSafe 3 = .ok (.invokevirtual 115, 3) := by decide +kernel
theorem d_Sb_leadsToSafe_6 : decode b_Sb_leadsToSafe 6 = .ok (.ifCond .eq 21, 3) := by decide +kernel
theorem d_Sb_leadsToSafe_9 : decode b_Sb_leadsToSafe 9 = .ok (.aload_n 0, 1) := by decide +kernel
theorem d_Sb_leadsToSafe_10 : decode b_Sb_leadsToSafe 10 = .ok (.getfield 31, 3) := by decide +kernel
theorem d_Sb_leadsToSafe_13 : decode b_Sb_leadsToSafe 13 = .ok (.aload_n 0, 1) := by decide +kernel
theorem d_Sb_leadsToSafe_14 : decode b_Sb_leadsToSafe 14 = .ok (.iload_n 1, 1) := by decide +kernel
theorem d_Sb_leadsToSafe_15 : decode b_Sb_leadsToSafe 15 = .ok (.iload_n 2, 1) := by decide +kernel
theorem d_Sb_leadsToSafe_16 : decode b_Sb_leadsToSafe 16 = .ok (.invokevirtual 64, 3) := by decide +kernel
theorem d_Sb_leadsToSafe_19 : decode b_Sb_leadsToSafe 19 = .ok (.iaload, 1) := by decide +kernel
theorem d_Sb_leadsToSafe_20 : decode b_Sb_leadsToSafe 20 = .ok (.ifCond .le 7, 3) := by decide +kernel
theorem d_Sb_leadsToSafe_23 : decode b_Sb_leadsToSafe 23 = .ok (.iconst 1, 1) := by decide +kernel
theorem d_Sb_leadsToSafe_24 : decode b_Sb_leadsToSafe 24 = .ok (.goto 4, 3) := by decide +kernel
theorem d_Sb_leadsToSafe_27 : decode b_Sb_leadsToSafe 27 = .ok (.iconst 0, 1) := by decide +kernel
theorem d_Sb_leadsToSafe_28 : decode b_Sb_leadsToSafe 28 = .ok (.ireturn, 1) := by decide +kernel
theorem d_Sb_canServe_0 : decode b_Sb_canServe 0 = .ok (.iconst 0, 1) := by decide +kernel
theorem d_Sb_canServe_1 : decode b_Sb_canServe 1 = .ok (.istore_n 3, 1) := by decide +kernel
theorem d_Sb_canServe_2 : decode b_Sb_canServe 2 = .ok (.iload_n 3, 1) := by decide +kernel
theorem d_Sb_canServe_3 : decode b_Sb_canServe 3 = .ok (.aload_n 0, 1) := by decide +kernel
theorem d_Sb_canServe_4 : decode b_Sb_canServe 4 = .ok (.getfield 21, 3) := by decide +kernel
theorem d_Sb_canServe_7 : decode b_Sb_canServe 7 = .ok (.if_icmp .ge 25, 3) := by decide +kernel
theorem d_Sb_canServe_10 : decode b_Sb_canServe 10 = .ok (.iload_n 3, 1) := by decide +kernel
theorem d_Sb_canServe_11 : decode b_Sb_canServe 11 = .ok (.iload_n 2, 1) := by decide +kernel
theorem d_Sb_canServe_12 : decode b_Sb_canServe 12 = .ok (.if_icmp .eq 14, 3) := by decide +kernel
theorem d_Sb_canServe_15 : decode b_Sb_canServe 15 = .ok (.aload_n 0, 1) := by decide +kernel
theorem d_Sb_canServe_16 : decode b_Sb_canServe 16 = .ok (.iload_n 1, 1) := by decide +kernel
theorem d_Sb_canServe_17 : decode b_Sb_canServe 17 = .ok (.iload_n 3, 1) := by decide +kernel
theorem d_Sb_canServe_18 : decode b_Sb_canServe 18 = .ok (.invokevirtual 102, 3) := by decide +kernel
theorem d_Sb_canServe_21 : decode b_Sb_canServe 21 = .ok (.ifCond .ne 5, 3) := by decide +kernel
theorem d_Sb_canServe_24 : decode b_Sb_canServe 24 = .ok (.iconst 0, 1) := by decide +kernel
theorem d_Sb_canServe_25 : decode b_Sb_canServe 25 = .ok (.ireturn, 1) := by decide +kernel
theorem d_Sb_canServe_26 : decode b_Sb_canServe 26 = .ok (.iinc 3 1, 3) := by decide +kernel
theorem d_Sb_canServe_29 : decode b_Sb_canServe 29 = .ok (.goto (-27), 3) := by decide +kernel
theorem d_Sb_canServe_32 : decode b_Sb_canServe 32 = .ok (.iconst 1, 1) := by decide +kernel
theorem d_Sb_canServe_33 : decode b_Sb_canServe 33 = .ok (.ireturn, 1) := by decide +kernel
theorem d_Sb_stateAfter_0 : decode b_Sb_stateAfter 0 = .ok (.aload_n 0, 1) := by decide +kernel
theorem d_Sb_stateAfter_1 : decode b_Sb_stateAfter 1 = .ok (.getfield 15, 3) := by decide +kernel
theorem d_Sb_stateAfter_4 : decode b_Sb_stateAfter 4 = .ok (.iload_n 2, 1) := by decide +kernel
theorem d_Sb_stateAfter_5 : decode b_Sb_stateAfter 5 = .ok (.iaload, 1) := by decide +kernel
theorem d_Sb_stateAfter_6 : decode b_Sb_stateAfter 6 = .ok (.aload_n 0, 1) := by decide +kernel
theorem d_Sb_stateAfter_7 : decode b_Sb_stateAfter 7 = .ok (.iload_n 1, 1) := by decide +kernel
theorem d_Sb_stateAfter_8 : decode b_Sb_stateAfter 8 = .ok (.iload_n 2, 1) := by decide +kernel
theorem d_Sb_stateAfter_9 : decode b_Sb_stateAfter 9 = .ok (.invokevirtual 102, 3) := by decide +kernel
theorem d_Sb_stateAfter_12 : decode b_Sb_stateAfter 12 = .ok (.isub, 1) := by decide +kernel
theorem d_Sb_stateAfter_13 : decode b_Sb_stateAfter 13 = .ok (.istore_n 3, 1) := by decide +kernel
theorem d_Sb_stateAfter_14 : decode b_Sb_stateAfter 14 = .ok (.iload_n 1, 1) := by decide +kernel
theorem d_Sb_stateAfter_15 : decode b_Sb_stateAfter 15 = .ok (.aload_n 0, 1) := by decide +kernel
theorem d_Sb_stateAfter_16 : decode b_Sb_stateAfter 16 = .ok (.getfield 28, 3) := by decide +kernel
theorem d_Sb_stateAfter_19 : decode b_Sb_stateAfter 19 = .ok (.isub, 1) := by decide +kernel
theorem d_Sb_stateAfter_20 : decode b_Sb_stateAfter 20 = .ok (.aload_n 0, 1) := by decide +kernel
theorem d_Sb_stateAfter_21 : decode b_Sb_stateAfter 21 = .ok (.getfield 18, 3) := by decide +kernel
theorem d_Sb_stateAfter_24 : decode b_Sb_stateAfter 24 = .ok (.iload_n 2, 1) := by decide +kernel
theorem d_Sb_stateAfter_25 : decode b_Sb_stateAfter 25 = .ok (.iaload, 1) := by decide +kernel
theorem d_Sb_stateAfter_26 : decode b_Sb_stateAfter 26 = .ok (.iload_n 3, 1) := by decide +kernel
theorem d_Sb_stateAfter_27 : decode b_Sb_stateAfter 27 = .ok (.imul, 1) := by decide +kernel
theorem d_Sb_stateAfter_28 : decode b_Sb_stateAfter 28 = .ok (.iadd, 1) := by decide +kernel
theorem d_Sb_stateAfter_29 : decode b_Sb_stateAfter 29 = .ok (.ireturn, 1) := by decide +kernel
theorem d_Cy_copyFrom_0 : decode b_Cy_copyFrom 0 = .ok (.aload_n 0, 1) := by decide +kernel
theorem d_Cy_copyFrom_1 : decode b_Cy_copyFrom 1 = .ok (.iload_n 3, 1) := by decide +kernel
theorem d_Cy_copyFrom_2 : decode b_Cy_copyFrom 2 = .ok (.invokevirtual 22, 3) := by decide +kernel
theorem d_Cy_copyFrom_5 : decode b_Cy_copyFrom 5 = .ok (.aload_n 1, 1) := by decide +kernel
theorem d_Cy_copyFrom_6 : decode b_Cy_copyFrom 6 = .ok (.iload_n 2, 1) := by decide +kernel
theorem d_Cy_copyFrom_7 : decode b_Cy_copyFrom 7 = .ok (.aload_n 0, 1) := by decide +kernel
theorem d_Cy_copyFrom_8 : decode b_Cy_copyFrom 8 = .ok (.getfield 9, 3) := by decide +kernel
theorem d_Cy_copyFrom_11 : decode b_Cy_copyFrom 11 = .ok (.iconst 0, 1) := by decide +kernel
theorem d_Cy_copyFrom_12 : decode b_Cy_copyFrom 12 = .ok (.aload_n 0, 1) := by decide +kernel
theorem d_Cy_copyFrom_13 : decode b_Cy_copyFrom 13 = .ok (.getfield 15, 3) := by decide +kernel
theorem d_Cy_copyFrom_16 : decode b_Cy_copyFrom 16 = .ok (.invokestatic 32, 3) := by decide +kernel
theorem d_Cy_copyFrom_19 : decode b_Cy_copyFrom 19 = .ok (.return_, 1) := by decide +kernel
theorem d_Pk_letWait_0 : decode b_Pk_letWait 0 = .ok (.aload_n 0, 1) := by decide +kernel
theorem d_Pk_letWait_1 : decode b_Pk_letWait 1 = .ok (.getfield 37, 3) := by decide +kernel
theorem d_Pk_letWait_4 : decode b_Pk_letWait 4 = .ok (.iload_n 1, 1) := by decide +kernel
theorem d_Pk_letWait_5 : decode b_Pk_letWait 5 = .ok (.invokevirtual 157, 3) := by decide +kernel
theorem d_Pk_letWait_8 : decode b_Pk_letWait 8 = .ok (.aload_n 0, 1) := by decide +kernel
theorem d_Pk_letWait_9 : decode b_Pk_letWait 9 = .ok (.iconst 1, 1) := by decide +kernel
theorem d_Pk_letWait_10 : decode b_Pk_letWait 10 = .ok (.putfield 40, 3) := by decide +kernel
theorem d_Pk_letWait_13 : decode b_Pk_letWait 13 = .ok (.iload_n 1, 1) := by decide +kernel
theorem d_Pk_letWait_14 : decode b_Pk_letWait 14 = .ok (.ireturn, 1) := by decide +kernel
theorem d_Cy_setBuilder_0 : decode b_Cy_setBuilder 0 = .ok (.aload_n 0, 1) := by decide +kernel
theorem d_Cy_setBuilder_1 : decode b_Cy_setBuilder 1 = .ok (.iload_n 1, 1) := by decide +kernel
theorem d_Cy_setBuilder_2 : decode b_Cy_setBuilder 2 = .ok (.putfield 19, 3) := by decide +kernel
theorem d_Cy_setBuilder_5 : decode b_Cy_setBuilder 5 = .ok (.return_, 1) := by decide +kernel
theorem d_Lw_drop_0 : decode b_Lw_drop 0 = .ok (.aload_n 2, 1) := by decide +kernel
theorem d_Lw_drop_1 : decode b_Lw_drop 1 = .ok (.iconst 0, 1) := by decide +kernel
theorem d_Lw_drop_2 : decode b_Lw_drop 2 = .ok (.aload_n 0, 1) := by decide +kernel
theorem d_Lw_drop_3 : decode b_Lw_drop 3 = .ok (.iload_n 1, 1) := by decide +kernel
theorem d_Lw_drop_4 : decode b_Lw_drop 4 = .ok (.invokevirtual 19, 3) := by decide +kernel
theorem d_Lw_drop_7 : decode b_Lw_drop 7 = .ok (.i2l, 1) := by decide +kernel
theorem d_Lw_drop_8 : decode b_Lw_drop 8 = .ok (.lastore, 1) := by decide +kernel
theorem d_Lw_drop_9 : decode b_Lw_drop 9 = .ok (.goto 9, 3) := by decide +kernel
theorem d_Lw_drop_12 : decode b_Lw_drop 12 = .ok (.astore_n 3, 1) := by decide +kernel
theorem d_Lw_drop_13 : decode b_Lw_drop 13 = .ok (.iconst 1, 1) := by decide +kernel
theorem d_Lw_drop_14 : decode b_Lw_drop 14 = .ok (.ireturn, 1) := by decide +kernel
theorem d_Lw_drop_15 : decode b_Lw_drop 15 = .ok (.astore_n 3, 1) := by decide +kernel
theorem d_Lw_drop_16 : decode b_Lw_drop 16 = .ok (.iconst 2, 1) := by decide +kernel
theorem d_Lw_drop_17 : decode b_Lw_drop 17 = .ok (.ireturn, 1) := by decide +kernel
theorem d_Lw_drop_18 : decode b_Lw_drop 18 = .ok (.iconst 0, 1) := by decide +kernel
theorem d_Lw_drop_19 : decode b_Lw_drop 19 = .ok (.ireturn, 1) := by decide +kernel
theorem d_Pk_drop_0 : decode b_Pk_drop 0 = .ok (.aload_n 0, 1) := by decide +kernel
theorem d_Pk_drop_1 : decode b_Pk_drop 1 = .ok (.iload_n 1, 1) := by decide +kernel
theorem d_Pk_drop_2 : decode b_Pk_drop 2 = .ok (.invokevirtual 88, 3) := by decide +kernel
theorem d_Pk_drop_5 : decode b_Pk_drop 5 = .ok (.istore_n 2, 1) := by decide +kernel
theorem d_Pk_drop_6 : decode b_Pk_drop 6 = .ok (.aload_n 0, 1) := by decide +kernel
theorem d_Pk_drop_7 : decode b_Pk_drop 7 = .ok (.getfield 40, 3) := by decide +kernel
theorem d_Pk_drop_10 : decode b_Pk_drop 10 = .ok (.ifCond .eq 11, 3) := by decide +kernel
theorem d_Pk_drop_13 : decode b_Pk_drop 13 = .ok (.new 64, 3) := by decide +kernel
theorem d_Pk_drop_16 : decode b_Pk_drop 16 = .ok (.dup, 1) := by decide +kernel
theorem d_Pk_drop_17 : decode b_Pk_drop 17 = .ok (.invokespecial 66, 3) := by decide +kernel
theorem d_Pk_drop_20 : decode b_Pk_drop 20 = .ok (.athrow, 1) := by decide +kernel
theorem d_Pk_drop_21 : decode b_Pk_drop 21 = .ok (.aload_n 0, 1) := by decide +kernel
theorem d_Pk_drop_22 : decode b_Pk_drop 22 = .ok (.getfield 27, 3) := by decide +kernel
theorem d_Pk_drop_25 : decode b_Pk_drop 25 = .ok (.aload_n 0, 1) := by decide +kernel
theorem d_Pk_drop_26 : decode b_Pk_drop 26 = .ok (.getfield 23, 3) := by decide +kernel
theorem d_Pk_drop_29 : decode b_Pk_drop 29 = .ok (.invokevirtual 74, 3) := by decide +kernel
theorem d_Pk_drop_32 : decode b_Pk_drop 32 = .ok (.aload_n 0, 1) := by decide +kernel
theorem d_Pk_drop_33 : decode b_Pk_drop 33 = .ok (.getfield 27, 3) := by decide +kernel
theorem d_Pk_drop_36 : decode b_Pk_drop 36 = .ok (.iload_n 2, 1) := by decide +kernel
theorem d_Pk_drop_37 : decode b_Pk_drop 37 = .ok (.invokevirtual 91, 3) := by decide +kernel
theorem d_Pk_drop_40 : decode b_Pk_drop 40 = .ok (.aload_n 0, 1) := by decide +kernel
theorem d_Pk_drop_41 : decode b_Pk_drop 41 = .ok (.aload_n 0, 1) := by decide +kernel
theorem d_Pk_drop_42 : decode b_Pk_drop 42 = .ok (.invokevirtual 82, 3) := by decide +kernel
theorem d_Pk_drop_45 : decode b_Pk_drop 45 = .ok (.invokevirtual 85, 3) := by decide +kernel
theorem d_Pk_drop_48 : decode b_Pk_drop 48 = .ok (.ireturn, 1) := by decide +kernel
theorem d_Pk_indexOf_0 : decode b_Pk_indexOf 0 = .ok (.aload_n 0, 1) := by decide +kernel
theorem d_Pk_indexOf_1 : decode b_Pk_indexOf 1 = .ok (.getfield 23, 3) := by decide +kernel
theorem d_Pk_indexOf_4 : decode b_Pk_indexOf 4 = .ok (.iload_n 1, 1) := by decide +kernel
theorem d_Pk_indexOf_5 : decode b_Pk_indexOf 5 = .ok (.invokevirtual 57, 3) := by decide +kernel
theorem d_Pk_indexOf_8 : decode b_Pk_indexOf 8 = .ok (.istore_n 2, 1) := by decide +kernel
theorem d_Pk_indexOf_9 : decode b_Pk_indexOf 9 = .ok (.iload_n 2, 1) := by decide +kernel
theorem d_Pk_indexOf_10 : decode b_Pk_indexOf 10 = .ok (.iconst (-1), 1) := by decide +kernel
theorem d_Pk_indexOf_11 : decode b_Pk_indexOf 11 = .ok (.if_icmp .ne 11, 3) := by decide +kernel
theorem d_Pk_indexOf_14 : decode b_Pk_indexOf 14 = .ok (.new 144, 3) := by decide +kernel
theorem d_Pk_indexOf_17 : decode b_Pk_indexOf 17 = .ok (.dup, 1) := by decide +kernel
theorem d_Pk_indexOf_18 : decode b_Pk_indexOf 18 = .ok (.invokespecial 146, 3) := by decide +kernel
theorem d_Pk_indexOf_21 : decode b_Pk_indexOf 21 = .ok (.athrow, 1) := by decide +kernel
theorem d_Pk_indexOf_22 : decode b_Pk_indexOf 22 = .ok (.iload_n 2, 1) := by decide +kernel
theorem d_Pk_indexOf_23 : decode b_Pk_indexOf 23 = .ok (.ireturn, 1) := by decide +kernel
theorem d_Cl_removeAt_0 : decode b_Cl_removeAt 0 = .ok (.aload_n 0, 1) := by decide +kernel
theorem d_Cl_removeAt_1 : decode b_Cl_removeAt 1 = .ok (.dup, 1) := by decide +kernel
theorem d_Cl_removeAt_2 : decode b_Cl_removeAt 2 = .ok (.getfield 24, 3) := by decide +kernel
theorem d_Cl_removeAt_5 : decode b_Cl_removeAt 5 = .ok (.iconst 1, 1) := by decide +kernel
theorem d_Cl_removeAt_6 : decode b_Cl_removeAt 6 = .ok (.isub, 1) := by decide +kernel
theorem d_Cl_removeAt_7 : decode b_Cl_removeAt 7 = .ok (.putfield 24, 3) := by decide +kernel
theorem d_Cl_removeAt_10 : decode b_Cl_removeAt 10 = .ok (.iload_n 1, 1) := by decide +kernel
theorem d_Cl_removeAt_11 : decode b_Cl_removeAt 11 = .ok (.istore_n 2, 1) := by decide +kernel
theorem d_Cl_removeAt_12 : decode b_Cl_removeAt 12 = .ok (.iload_n 2, 1) := by decide +kernel
theorem d_Cl_removeAt_13 : decode b_Cl_removeAt 13 = .ok (.aload_n 0, 1) := by decide +kernel
theorem d_Cl_removeAt_14 : decode b_Cl_removeAt 14 = .ok (.getfield 24, 3) := by decide +kernel
theorem d_Cl_removeAt_17 : decode b_Cl_removeAt 17 = .ok (.if_icmp .ge 18, 3) := by decide +kernel
theorem d_Cl_removeAt_20 : decode b_Cl_removeAt 20 = .ok (.aload_n 0, 1) := by decide +kernel
theorem d_Cl_removeAt_21 : decode b_Cl_removeAt 21 = .ok (.iload_n 2, 1) := by decide +kernel
theorem d_Cl_removeAt_22 : decode b_Cl_removeAt 22 = .ok (.aload_n 0, 1) := by decide +kernel
theorem d_Cl_removeAt_23 : decode b_Cl_removeAt 23 = .ok (.iload_n 2, 1) := by decide +kernel
theorem d_Cl_removeAt_24 : decode b_Cl_removeAt 24 = .ok (.iconst 1, 1) := by decide +kernel
theorem d_Cl_removeAt_25 : decode b_Cl_removeAt 25 = .ok (.iadd, 1) := by decide +kernel
theorem d_Cl_removeAt_26 : decode b_Cl_removeAt 26 = .ok (.invokevirtual 34, 3) := by decide +kernel
theorem d_Cl_removeAt_29 : decode b_Cl_removeAt 29 = .ok (.iinc 2 1, 3) := by decide +kernel
theorem d_Cl_removeAt_32 : decode b_Cl_removeAt 32 = .ok (.goto (-20), 3) := by decide +kernel
theorem d_Cl_removeAt_35 : decode b_Cl_removeAt 35 = .ok (.return_, 1) := by decide +kernel
theorem d_Lw_wish_0 : decode b_Lw_wish 0 = .ok (.aload_n 0, 1) := by decide +kernel
theorem d_Lw_wish_1 : decode b_Lw_wish 1 = .ok (.iload_n 1, 1) := by decide +kernel
theorem d_Lw_wish_2 : decode b_Lw_wish 2 = .ok (.invokevirtual 25, 3) := by decide +kernel
theorem d_Lw_wish_5 : decode b_Lw_wish 5 = .ok (.goto 9, 3) := by decide +kernel
theorem d_Lw_wish_8 : decode b_Lw_wish 8 = .ok (.astore_n 2, 1) := by decide +kernel
theorem d_Lw_wish_9 : decode b_Lw_wish 9 = .ok (.iconst 1, 1) := by decide +kernel
theorem d_Lw_wish_10 : decode b_Lw_wish 10 = .ok (.ireturn, 1) := by decide +kernel
theorem d_Lw_wish_11 : decode b_Lw_wish 11 = .ok (.astore_n 2, 1) := by decide +kernel
theorem d_Lw_wish_12 : decode b_Lw_wish 12 = .ok (.iconst 2, 1) := by decide +kernel
theorem d_Lw_wish_13 : decode b_Lw_wish 13 = .ok (.ireturn, 1) := by decide +kernel
theorem d_Lw_wish_14 : decode b_Lw_wish 14 = .ok (.iconst 0, 1) := by decide +kernel
theorem d_Lw_wish_15 : decode b_Lw_wish 15 = .ok (.ireturn, 1) := by decide +kernel
theorem d_Pk_wish_0 : decode b_Pk_wish 0 = .ok (.aload_n 0, 1) := by decide +kernel
theorem d_Pk_wish_1 : decode b_Pk_wish 1 = .ok (.iload_n 1, 1) := by decide +kernel
theorem d_Pk_wish_2 : decode b_Pk_wish 2 = .ok (.invokevirtual 88, 3) := by decide +kernel
theorem d_Pk_wish_5 : decode b_Pk_wish 5 = .ok (.pop, 1) := by decide +kernel
theorem d_Pk_wish_6 : decode b_Pk_wish 6 = .ok (.aload_n 0, 1) := by decide +kernel
theorem d_Pk_wish_7 : decode b_Pk_wish 7 = .ok (.getfield 48, 3) := by decide +kernel
theorem d_Pk_wish_10 : decode b_Pk_wish 10 = .ok (.ifCond .eq 11, 3) := by decide +kernel
theorem d_Pk_wish_13 : decode b_Pk_wish 13 = .ok (.new 64, 3) := by decide +kernel
theorem d_Pk_wish_16 : decode b_Pk_wish 16 = .ok (.dup, 1) := by decide +kernel
theorem d_Pk_wish_17 : decode b_Pk_wish 17 = .ok (.invokespecial 66, 3) := by decide +kernel
theorem d_Pk_wish_20 : decode b_Pk_wish 20 = .ok (.athrow, 1) := by decide +kernel
theorem d_Pk_wish_21 : decode b_Pk_wish 21 = .ok (.aload_n 0, 1) := by decide +kernel
theorem d_Pk_wish_22 : decode b_Pk_wish 22 = .ok (.iload_n 1, 1) := by decide +kernel
end
section
theorem d_Pk_wish_23 : decode b_Pk_wish 23 = .ok (.putfield 48, 3) := by decide +kernel
theorem d_Pk_wish_26 : decode b_Pk_wish 26 = .ok (.return_, 1) := by decide +kernel
theorem d_Lw_waited_0 : decode b_Lw_waited 0 = .ok (.aload_n 2, 1) := by decide +kernel
theorem d_Lw_waited_1 : decode b_Lw_waited 1 = .ok (.iconst 0, 1) := by decide +kernel
theorem d_Lw_waited_2 : decode b_Lw_waited 2 = .ok (.aload_n 0, 1) := by decide +kernel
theorem d_Lw_waited_3 : decode b_Lw_waited 3 = .ok (.iload_n 1, 1) := by decide +kernel
theorem d_Lw_waited_4 : decode b_Lw_waited 4 = .ok (.invokevirtual 29, 3) := by decide +kernel
theorem d_Lw_waited_7 : decode b_Lw_waited 7 = .ok (.i2l, 1) := by decide +kernel
theorem d_Lw_waited_8 : decode b_Lw_waited 8 = .ok (.lastore, 1) := by decide +kernel
theorem d_Lw_waited_9 : decode b_Lw_waited 9 = .ok (.goto 6, 3) := by decide +kernel
theorem d_Lw_waited_12 : decode b_Lw_waited 12 = .ok (.astore_n 3, 1) := by decide +kernel
theorem d_Lw_waited_13 : decode b_Lw_waited 13 = .ok (.iconst 1, 1) := by decide +kernel
theorem d_Lw_waited_14 : decode b_Lw_waited 14 = .ok (.ireturn, 1) := by decide +kernel
theorem d_Lw_waited_15 : decode b_Lw_waited 15 = .ok (.iconst 0, 1) := by decide +kernel
theorem d_Lw_waited_16 : decode b_Lw_waited 16 = .ok (.ireturn, 1) := by decide +kernel
theorem d_Pk_waited_0 : decode b_Pk_waited 0 = .ok (.aload_n 0, 1) := by decide +kernel
theorem d_Pk_waited_1 : decode b_Pk_waited 1 = .ok (.getfield 23, 3) := by decide +kernel
theorem d_Pk_waited_4 : decode b_Pk_waited 4 = .ok (.aload_n 0, 1) := by decide +kernel
theorem d_Pk_waited_5 : decode b_Pk_waited 5 = .ok (.iload_n 1, 1) := by decide +kernel
theorem d_Pk_waited_6 : decode b_Pk_waited 6 = .ok (.invokevirtual 88, 3) := by decide +kernel
theorem d_Pk_waited_9 : decode b_Pk_waited 9 = .ok (.invokevirtual 107, 3) := by decide +kernel
theorem d_Pk_waited_12 : decode b_Pk_waited 12 = .ok (.ireturn, 1) := by decide +kernel
theorem d_Lw_worst_0 : decode b_Lw_worst 0 = .ok (.aload_n 2, 1) := by decide +kernel
theorem d_Lw_worst_1 : decode b_Lw_worst 1 = .ok (.iconst 0, 1) := by decide +kernel
theorem d_Lw_worst_2 : decode b_Lw_worst 2 = .ok (.aload_n 0, 1) := by decide +kernel
theorem d_Lw_worst_3 : decode b_Lw_worst 3 = .ok (.iload_n 1, 1) := by decide +kernel
theorem d_Lw_worst_4 : decode b_Lw_worst 4 = .ok (.invokevirtual 32, 3) := by decide +kernel
theorem d_Lw_worst_7 : decode b_Lw_worst 7 = .ok (.i2l, 1) := by decide +kernel
theorem d_Lw_worst_8 : decode b_Lw_worst 8 = .ok (.lastore, 1) := by decide +kernel
theorem d_Lw_worst_9 : decode b_Lw_worst 9 = .ok (.goto 6, 3) := by decide +kernel
theorem d_Lw_worst_12 : decode b_Lw_worst 12 = .ok (.astore_n 3, 1) := by decide +kernel
theorem d_Lw_worst_13 : decode b_Lw_worst 13 = .ok (.iconst 1, 1) := by decide +kernel
theorem d_Lw_worst_14 : decode b_Lw_worst 14 = .ok (.ireturn, 1) := by decide +kernel
theorem d_Lw_worst_15 : decode b_Lw_worst 15 = .ok (.iconst 0, 1) := by decide +kernel
theorem d_Lw_worst_16 : decode b_Lw_worst 16 = .ok (.ireturn, 1) := by decide +kernel
theorem d_Pk_worst_0 : decode b_Pk_worst 0 = .ok (.aload_n 0, 1) := by decide +kernel
theorem d_Pk_worst_1 : decode b_Pk_worst 1 = .ok (.getfield 23, 3) := by decide +kernel
theorem d_Pk_worst_4 : decode b_Pk_worst 4 = .ok (.aload_n 0, 1) := by decide +kernel
theorem d_Pk_worst_5 : decode b_Pk_worst 5 = .ok (.iload_n 1, 1) := by decide +kernel
theorem d_Pk_worst_6 : decode b_Pk_worst 6 = .ok (.invokevirtual 88, 3) := by decide +kernel
theorem d_Pk_worst_9 : decode b_Pk_worst 9 = .ok (.invokevirtual 110, 3) := by decide +kernel
theorem d_Pk_worst_12 : decode b_Pk_worst 12 = .ok (.ireturn, 1) := by decide +kernel
theorem d_Cl_worstAt_0 : decode b_Cl_worstAt 0 = .ok (.aload_n 0, 1) := by decide +kernel
theorem d_Cl_worstAt_1 : decode b_Cl_worstAt 1 = .ok (.getfield 21, 3) := by decide +kernel
theorem d_Cl_worstAt_4 : decode b_Cl_worstAt 4 = .ok (.iload_n 1, 1) := by decide +kernel
theorem d_Cl_worstAt_5 : decode b_Cl_worstAt 5 = .ok (.iaload, 1) := by decide +kernel
theorem d_Cl_worstAt_6 : decode b_Cl_worstAt 6 = .ok (.ireturn, 1) := by decide +kernel
theorem d_Lw_span_0 : decode b_Lw_span 0 = .ok (.aload_n 2, 1) := by decide +kernel
theorem d_Lw_span_1 : decode b_Lw_span 1 = .ok (.iconst 0, 1) := by decide +kernel
theorem d_Lw_span_2 : decode b_Lw_span 2 = .ok (.aload_n 0, 1) := by decide +kernel
theorem d_Lw_span_3 : decode b_Lw_span 3 = .ok (.iload_n 1, 1) := by decide +kernel
theorem d_Lw_span_4 : decode b_Lw_span 4 = .ok (.invokevirtual 35, 3) := by decide +kernel
theorem d_Lw_span_7 : decode b_Lw_span 7 = .ok (.i2l, 1) := by decide +kernel
theorem d_Lw_span_8 : decode b_Lw_span 8 = .ok (.lastore, 1) := by decide +kernel
theorem d_Lw_span_9 : decode b_Lw_span 9 = .ok (.goto 6, 3) := by decide +kernel
theorem d_Lw_span_12 : decode b_Lw_span 12 = .ok (.astore_n 3, 1) := by decide +kernel
theorem d_Lw_span_13 : decode b_Lw_span 13 = .ok (.iconst 1, 1) := by decide +kernel
theorem d_Lw_span_14 : decode b_Lw_span 14 = .ok (.ireturn, 1) := by decide +kernel
theorem d_Lw_span_15 : decode b_Lw_span 15 = .ok (.iconst 0, 1) := by decide +kernel
theorem d_Lw_span_16 : decode b_Lw_span 16 = .ok (.ireturn, 1) := by decide +kernel
theorem d_Pk_span_0 : decode b_Pk_span 0 = .ok (.aload_n 0, 1) := by decide +kernel
theorem d_Pk_span_1 : decode b_Pk_span 1 = .ok (.getfield 23, 3) := by decide +kernel
theorem d_Pk_span_4 : decode b_Pk_span 4 = .ok (.aload_n 0, 1) := by decide +kernel
theorem d_Pk_span_5 : decode b_Pk_span 5 = .ok (.iload_n 1, 1) := by decide +kernel
theorem d_Pk_span_6 : decode b_Pk_span 6 = .ok (.invokevirtual 88, 3) := by decide +kernel
theorem d_Pk_span_9 : decode b_Pk_span 9 = .ok (.invokevirtual 113, 3) := by decide +kernel
theorem d_Pk_span_12 : decode b_Pk_span 12 = .ok (.ireturn, 1) := by decide +kernel
theorem d_Lw_cycle_0 : decode b_Lw_cycle 0 = .ok (.aload_n 3, 1) := by decide +kernel
theorem d_Lw_cycle_1 : decode b_Lw_cycle 1 = .ok (.iconst 0, 1) := by decide +kernel
theorem d_Lw_cycle_2 : decode b_Lw_cycle 2 = .ok (.aload_n 0, 1) := by decide +kernel
theorem d_Lw_cycle_3 : decode b_Lw_cycle 3 = .ok (.iload_n 1, 1) := by decide +kernel
theorem d_Lw_cycle_4 : decode b_Lw_cycle 4 = .ok (.iload_n 2, 1) := by decide +kernel
theorem d_Lw_cycle_5 : decode b_Lw_cycle 5 = .ok (.invokevirtual 38, 3) := by decide +kernel
theorem d_Lw_cycle_8 : decode b_Lw_cycle 8 = .ok (.i2l, 1) := by decide +kernel
theorem d_Lw_cycle_9 : decode b_Lw_cycle 9 = .ok (.lastore, 1) := by decide +kernel
theorem d_Lw_cycle_10 : decode b_Lw_cycle 10 = .ok (.goto 11, 3) := by decide +kernel
theorem d_Lw_cycle_13 : decode b_Lw_cycle 13 = .ok (.astore 4, 2) := by decide +kernel
theorem d_Lw_cycle_15 : decode b_Lw_cycle 15 = .ok (.iconst 1, 1) := by decide +kernel
theorem d_Lw_cycle_16 : decode b_Lw_cycle 16 = .ok (.ireturn, 1) := by decide +kernel
theorem d_Lw_cycle_17 : decode b_Lw_cycle 17 = .ok (.astore 4, 2) := by decide +kernel
theorem d_Lw_cycle_19 : decode b_Lw_cycle 19 = .ok (.iconst 2, 1) := by decide +kernel
theorem d_Lw_cycle_20 : decode b_Lw_cycle 20 = .ok (.ireturn, 1) := by decide +kernel
theorem d_Lw_cycle_21 : decode b_Lw_cycle 21 = .ok (.iconst 0, 1) := by decide +kernel
theorem d_Lw_cycle_22 : decode b_Lw_cycle 22 = .ok (.ireturn, 1) := by decide +kernel
theorem d_Pk_cycle_0 : decode b_Pk_cycle 0 = .ok (.iload_n 1, 1) := by decide +kernel
theorem d_Pk_cycle_1 : decode b_Pk_cycle 1 = .ok (.ifCond .eq 18, 3) := by decide +kernel
theorem d_Pk_cycle_4 : decode b_Pk_cycle 4 = .ok (.aload_n 0, 1) := by decide +kernel
theorem d_Pk_cycle_5 : decode b_Pk_cycle 5 = .ok (.getfield 40, 3) := by decide +kernel
theorem d_Pk_cycle_8 : decode b_Pk_cycle 8 = .ok (.ifCond .ne 11, 3) := by decide +kernel
theorem d_Pk_cycle_11 : decode b_Pk_cycle 11 = .ok (.new 64, 3) := by decide +kernel
theorem d_Pk_cycle_14 : decode b_Pk_cycle 14 = .ok (.dup, 1) := by decide +kernel
theorem d_Pk_cycle_15 : decode b_Pk_cycle 15 = .ok (.invokespecial 66, 3) := by decide +kernel
theorem d_Pk_cycle_18 : decode b_Pk_cycle 18 = .ok (.athrow, 1) := by decide +kernel
theorem d_Pk_cycle_19 : decode b_Pk_cycle 19 = .ok (.iload_n 1, 1) := by decide +kernel
theorem d_Pk_cycle_20 : decode b_Pk_cycle 20 = .ok (.ifCond .eq 10, 3) := by decide +kernel
theorem d_Pk_cycle_23 : decode b_Pk_cycle 23 = .ok (.aload_n 0, 1) := by decide +kernel
theorem d_Pk_cycle_24 : decode b_Pk_cycle 24 = .ok (.getfield 37, 3) := by decide +kernel
theorem d_Pk_cycle_27 : decode b_Pk_cycle 27 = .ok (.goto 7, 3) := by decide +kernel
theorem d_Pk_cycle_30 : decode b_Pk_cycle 30 = .ok (.aload_n 0, 1) := by decide +kernel
theorem d_Pk_cycle_31 : decode b_Pk_cycle 31 = .ok (.getfield 33, 3) := by decide +kernel
theorem d_Pk_cycle_34 : decode b_Pk_cycle 34 = .ok (.astore_n 3, 1) := by decide +kernel
theorem d_Pk_cycle_35 : decode b_Pk_cycle 35 = .ok (.iload_n 2, 1) := by decide +kernel
theorem d_Pk_cycle_36 : decode b_Pk_cycle 36 = .ok (.iconst (-1), 1) := by decide +kernel
theorem d_Pk_cycle_37 : decode b_Pk_cycle 37 = .ok (.if_icmp .ne 8, 3) := by decide +kernel
theorem d_Pk_cycle_40 : decode b_Pk_cycle 40 = .ok (.aload_n 3, 1) := by decide +kernel
theorem d_Pk_cycle_41 : decode b_Pk_cycle 41 = .ok (.invokevirtual 116, 3) := by decide +kernel
theorem d_Pk_cycle_44 : decode b_Pk_cycle 44 = .ok (.ireturn, 1) := by decide +kernel
theorem d_Pk_cycle_45 : decode b_Pk_cycle 45 = .ok (.iload_n 2, 1) := by decide +kernel
theorem d_Pk_cycle_46 : decode b_Pk_cycle 46 = .ok (.ifCond .lt 11, 3) := by decide +kernel
theorem d_Pk_cycle_49 : decode b_Pk_cycle 49 = .ok (.iload_n 2, 1) := by decide +kernel
theorem d_Pk_cycle_50 : decode b_Pk_cycle 50 = .ok (.aload_n 3, 1) := by decide +kernel
theorem d_Pk_cycle_51 : decode b_Pk_cycle 51 = .ok (.invokevirtual 116, 3) := by decide +kernel
theorem d_Pk_cycle_54 : decode b_Pk_cycle 54 = .ok (.if_icmp .lt 11, 3) := by decide +kernel
theorem d_Pk_cycle_57 : decode b_Pk_cycle 57 = .ok (.new 119, 3) := by decide +kernel
theorem d_Pk_cycle_60 : decode b_Pk_cycle 60 = .ok (.dup, 1) := by decide +kernel
theorem d_Pk_cycle_61 : decode b_Pk_cycle 61 = .ok (.invokespecial 121, 3) := by decide +kernel
theorem d_Pk_cycle_64 : decode b_Pk_cycle 64 = .ok (.athrow, 1) := by decide +kernel
theorem d_Pk_cycle_65 : decode b_Pk_cycle 65 = .ok (.aload_n 3, 1) := by decide +kernel
theorem d_Pk_cycle_66 : decode b_Pk_cycle 66 = .ok (.iload_n 2, 1) := by decide +kernel
theorem d_Pk_cycle_67 : decode b_Pk_cycle 67 = .ok (.invokevirtual 98, 3) := by decide +kernel
theorem d_Pk_cycle_70 : decode b_Pk_cycle 70 = .ok (.ireturn, 1) := by decide +kernel
theorem d_Cy_length_0 : decode b_Cy_length 0 = .ok (.aload_n 0, 1) := by decide +kernel
theorem d_Cy_length_1 : decode b_Cy_length 1 = .ok (.getfield 15, 3) := by decide +kernel
theorem d_Cy_length_4 : decode b_Cy_length 4 = .ok (.ireturn, 1) := by decide +kernel
theorem d_Lw_about_0 : decode b_Lw_about 0 = .ok (.aload_n 2, 1) := by decide +kernel
theorem d_Lw_about_1 : decode b_Lw_about 1 = .ok (.iconst 0, 1) := by decide +kernel
theorem d_Lw_about_2 : decode b_Lw_about 2 = .ok (.aload_n 0, 1) := by decide +kernel
theorem d_Lw_about_3 : decode b_Lw_about 3 = .ok (.iload_n 1, 1) := by decide +kernel
theorem d_Lw_about_4 : decode b_Lw_about 4 = .ok (.invokevirtual 44, 3) := by decide +kernel
theorem d_Lw_about_7 : decode b_Lw_about 7 = .ok (.i2l, 1) := by decide +kernel
theorem d_Lw_about_8 : decode b_Lw_about 8 = .ok (.lastore, 1) := by decide +kernel
theorem d_Lw_about_9 : decode b_Lw_about 9 = .ok (.goto 6, 3) := by decide +kernel
theorem d_Lw_about_12 : decode b_Lw_about 12 = .ok (.astore_n 3, 1) := by decide +kernel
theorem d_Lw_about_13 : decode b_Lw_about 13 = .ok (.iconst 1, 1) := by decide +kernel
theorem d_Lw_about_14 : decode b_Lw_about 14 = .ok (.ireturn, 1) := by decide +kernel
theorem d_Lw_about_15 : decode b_Lw_about 15 = .ok (.iconst 0, 1) := by decide +kernel
theorem d_Lw_about_16 : decode b_Lw_about 16 = .ok (.ireturn, 1) := by decide +kernel
theorem d_Pk_about_0 : decode b_Pk_about 0 = .ok (.iload_n 1, 1) := by decide +kernel
theorem d_Pk_about_1 : decode b_Pk_about 1 = .ok (.tableswitch 98 0 6 #[43, 51, 70, 78, 83, 88, 93], 43) := by decide +kernel
theorem d_Pk_about_44 : decode b_Pk_about 44 = .ok (.aload_n 0, 1) := by decide +kernel
theorem d_Pk_about_45 : decode b_Pk_about 45 = .ok (.getfield 33, 3) := by decide +kernel
theorem d_Pk_about_48 : decode b_Pk_about 48 = .ok (.invokevirtual 122, 3) := by decide +kernel
theorem d_Pk_about_51 : decode b_Pk_about 51 = .ok (.ireturn, 1) := by decide +kernel
theorem d_Pk_about_52 : decode b_Pk_about 52 = .ok (.aload_n 0, 1) := by decide +kernel
theorem d_Pk_about_53 : decode b_Pk_about 53 = .ok (.getfield 40, 3) := by decide +kernel
theorem d_Pk_about_56 : decode b_Pk_about 56 = .ok (.ifCond .eq 13, 3) := by decide +kernel
theorem d_Pk_about_59 : decode b_Pk_about 59 = .ok (.aload_n 0, 1) := by decide +kernel
theorem d_Pk_about_60 : decode b_Pk_about 60 = .ok (.getfield 37, 3) := by decide +kernel
theorem d_Pk_about_63 : decode b_Pk_about 63 = .ok (.invokevirtual 122, 3) := by decide +kernel
theorem d_Pk_about_66 : decode b_Pk_about 66 = .ok (.goto 4, 3) := by decide +kernel
theorem d_Pk_about_69 : decode b_Pk_about 69 = .ok (.iconst (-1), 1) := by decide +kernel
theorem d_Pk_about_70 : decode b_Pk_about 70 = .ok (.ireturn, 1) := by decide +kernel
theorem d_Pk_about_71 : decode b_Pk_about 71 = .ok (.aload_n 0, 1) := by decide +kernel
theorem d_Pk_about_72 : decode b_Pk_about 72 = .ok (.getfield 23, 3) := by decide +kernel
theorem d_Pk_about_75 : decode b_Pk_about 75 = .ok (.invokevirtual 67, 3) := by decide +kernel
theorem d_Pk_about_78 : decode b_Pk_about 78 = .ok (.ireturn, 1) := by decide +kernel
theorem d_Pk_about_79 : decode b_Pk_about 79 = .ok (.aload_n 0, 1) := by decide +kernel
theorem d_Pk_about_80 : decode b_Pk_about 80 = .ok (.getfield 48, 3) := by decide +kernel
theorem d_Pk_about_83 : decode b_Pk_about 83 = .ok (.ireturn, 1) := by decide +kernel
theorem d_Pk_about_84 : decode b_Pk_about 84 = .ok (.aload_n 0, 1) := by decide +kernel
theorem d_Pk_about_85 : decode b_Pk_about 85 = .ok (.getfield 44, 3) := by decide +kernel
theorem d_Pk_about_88 : decode b_Pk_about 88 = .ok (.ireturn, 1) := by decide +kernel
theorem d_Pk_about_89 : decode b_Pk_about 89 = .ok (.aload_n 0, 1) := by decide +kernel
theorem d_Pk_about_90 : decode b_Pk_about 90 = .ok (.getfield 51, 3) := by decide +kernel
theorem d_Pk_about_93 : decode b_Pk_about 93 = .ok (.ireturn, 1) := by decide +kernel
theorem d_Pk_about_94 : decode b_Pk_about 94 = .ok (.aload_n 0, 1) := by decide +kernel
theorem d_Pk_about_95 : decode b_Pk_about 95 = .ok (.getfield 54, 3) := by decide +kernel
theorem d_Pk_about_98 : decode b_Pk_about 98 = .ok (.ireturn, 1) := by decide +kernel
theorem d_Pk_about_99 : decode b_Pk_about 99 = .ok (.new 61, 3) := by decide +kernel
theorem d_Pk_about_102 : decode b_Pk_about 102 = .ok (.dup, 1) := by decide +kernel
theorem d_Pk_about_103 : decode b_Pk_about 103 = .ok (.invokespecial 63, 3) := by decide +kernel
theorem d_Pk_about_106 : decode b_Pk_about 106 = .ok (.athrow, 1) := by decide +kernel
theorem d_Cy_builder_0 : decode b_Cy_builder 0 = .ok (.aload_n 0, 1) := by decide +kernel
theorem d_Cy_builder_1 : decode b_Cy_builder 1 = .ok (.getfield 19, 3) := by decide +kernel
theorem d_Cy_builder_4 : decode b_Cy_builder 4 = .ok (.ireturn, 1) := by decide +kernel
theorem d_Lw_client_0 : decode b_Lw_client 0 = .ok (.aload_n 2, 1) := by decide +kernel
theorem d_Lw_client_1 : decode b_Lw_client 1 = .ok (.iconst 0, 1) := by decide +kernel
theorem d_Lw_client_2 : decode b_Lw_client 2 = .ok (.aload_n 0, 1) := by decide +kernel
theorem d_Lw_client_3 : decode b_Lw_client 3 = .ok (.iload_n 1, 1) := by decide +kernel
theorem d_Lw_client_4 : decode b_Lw_client 4 = .ok (.invokevirtual 47, 3) := by decide +kernel
theorem d_Lw_client_7 : decode b_Lw_client 7 = .ok (.i2l, 1) := by decide +kernel
theorem d_Lw_client_8 : decode b_Lw_client 8 = .ok (.lastore, 1) := by decide +kernel
theorem d_Lw_client_9 : decode b_Lw_client 9 = .ok (.goto 6, 3) := by decide +kernel
theorem d_Lw_client_12 : decode b_Lw_client 12 = .ok (.astore_n 3, 1) := by decide +kernel
theorem d_Lw_client_13 : decode b_Lw_client 13 = .ok (.iconst 1, 1) := by decide +kernel
theorem d_Lw_client_14 : decode b_Lw_client 14 = .ok (.ireturn, 1) := by decide +kernel
theorem d_Lw_client_15 : decode b_Lw_client 15 = .ok (.iconst 0, 1) := by decide +kernel
theorem d_Lw_client_16 : decode b_Lw_client 16 = .ok (.ireturn, 1) := by decide +kernel
theorem d_Pk_client_0 : decode b_Pk_client 0 = .ok (.iload_n 1, 1) := by decide +kernel
theorem d_Pk_client_1 : decode b_Pk_client 1 = .ok (.ifCond .lt 14, 3) := by decide +kernel
theorem d_Pk_client_4 : decode b_Pk_client 4 = .ok (.iload_n 1, 1) := by decide +kernel
theorem d_Pk_client_5 : decode b_Pk_client 5 = .ok (.aload_n 0, 1) := by decide +kernel
theorem d_Pk_client_6 : decode b_Pk_client 6 = .ok (.getfield 23, 3) := by decide +kernel
theorem d_Pk_client_9 : decode b_Pk_client 9 = .ok (.invokevirtual 67, 3) := by decide +kernel
theorem d_Pk_client_12 : decode b_Pk_client 12 = .ok (.if_icmp .lt 11, 3) := by decide +kernel
theorem d_Pk_client_15 : decode b_Pk_client 15 = .ok (.new 119, 3) := by decide +kernel
theorem d_Pk_client_18 : decode b_Pk_client 18 = .ok (.dup, 1) := by decide +kernel
theorem d_Pk_client_19 : decode b_Pk_client 19 = .ok (.invokespecial 121, 3) := by decide +kernel
theorem d_Pk_client_22 : decode b_Pk_client 22 = .ok (.athrow, 1) := by decide +kernel
theorem d_Pk_client_23 : decode b_Pk_client 23 = .ok (.aload_n 0, 1) := by decide +kernel
theorem d_Pk_client_24 : decode b_Pk_client 24 = .ok (.getfield 23, 3) := by decide +kernel
theorem d_Pk_client_27 : decode b_Pk_client 27 = .ok (.iload_n 1, 1) := by decide +kernel
theorem d_Pk_client_28 : decode b_Pk_client 28 = .ok (.invokevirtual 125, 3) := by decide +kernel
theorem d_Pk_client_31 : decode b_Pk_client 31 = .ok (.ireturn, 1) := by decide +kernel
theorem d_Lw_density_0 : decode b_Lw_density 0 = .ok (.aload_n 2, 1) := by decide +kernel
theorem d_Lw_density_1 : decode b_Lw_density 1 = .ok (.iconst 0, 1) := by decide +kernel
theorem d_Lw_density_2 : decode b_Lw_density 2 = .ok (.aload_n 0, 1) := by decide +kernel
theorem d_Lw_density_3 : decode b_Lw_density 3 = .ok (.iload_n 1, 1) := by decide +kernel
theorem d_Lw_density_4 : decode b_Lw_density 4 = .ok (.invokevirtual 50, 3) := by decide +kernel
theorem d_Lw_density_7 : decode b_Lw_density 7 = .ok (.lastore, 1) := by decide +kernel
theorem d_Lw_density_8 : decode b_Lw_density 8 = .ok (.goto 6, 3) := by decide +kernel
theorem d_Lw_density_11 : decode b_Lw_density 11 = .ok (.astore_n 3, 1) := by decide +kernel
theorem d_Lw_density_12 : decode b_Lw_density 12 = .ok (.iconst 1, 1) := by decide +kernel
theorem d_Lw_density_13 : decode b_Lw_density 13 = .ok (.ireturn, 1) := by decide +kernel
theorem d_Lw_density_14 : decode b_Lw_density 14 = .ok (.iconst 0, 1) := by decide +kernel
theorem d_Lw_density_15 : decode b_Lw_density 15 = .ok (.ireturn, 1) := by decide +kernel
theorem d_Pk_density_0 : decode b_Pk_density 0 = .ok (.iload_n 1, 1) := by decide +kernel
theorem d_Pk_density_1 : decode b_Pk_density 1 = .ok (.ifCond .eq 16, 3) := by decide +kernel
theorem d_Pk_density_4 : decode b_Pk_density 4 = .ok (.iload_n 1, 1) := by decide +kernel
theorem d_Pk_density_5 : decode b_Pk_density 5 = .ok (.iconst 1, 1) := by decide +kernel
theorem d_Pk_density_6 : decode b_Pk_density 6 = .ok (.if_icmp .eq 11, 3) := by decide +kernel
theorem d_Pk_density_9 : decode b_Pk_density 9 = .ok (.new 61, 3) := by decide +kernel
theorem d_Pk_density_12 : decode b_Pk_density 12 = .ok (.dup, 1) := by decide +kernel
theorem d_Pk_density_13 : decode b_Pk_density 13 = .ok (.invokespecial 63, 3) := by decide +kernel
theorem d_Pk_density_16 : decode b_Pk_density 16 = .ok (.athrow, 1) := by decide +kernel
theorem d_Pk_density_17 : decode b_Pk_density 17 = .ok (.lconst 0, 1) := by decide +kernel
theorem d_Pk_density_18 : decode b_Pk_density 18 = .ok (.lstore_n 2, 1) := by decide +kernel
theorem d_Pk_density_19 : decode b_Pk_density 19 = .ok (.lconst 1, 1) := by decide +kernel
theorem d_Pk_density_20 : decode b_Pk_density 20 = .ok (.lstore 4, 2) := by decide +kernel
theorem d_Pk_density_22 : decode b_Pk_density 22 = .ok (.iconst 0, 1) := by decide +kernel
theorem d_Pk_density_23 : decode b_Pk_density 23 = .ok (.istore 6, 2) := by decide +kernel
theorem d_Pk_density_25 : decode b_Pk_density 25 = .ok (.iload 6, 2) := by decide +kernel
theorem d_Pk_density_27 : decode b_Pk_density 27 = .ok (.aload_n 0, 1) := by decide +kernel
theorem d_Pk_density_28 : decode b_Pk_density 28 = .ok (.getfield 23, 3) := by decide +kernel
theorem d_Pk_density_31 : decode b_Pk_density 31 = .ok (.invokevirtual 67, 3) := by decide +kernel
theorem d_Pk_density_34 : decode b_Pk_density 34 = .ok (.if_icmp .ge 60, 3) := by decide +kernel
theorem d_Pk_density_37 : decode b_Pk_density 37 = .ok (.lload_n 2, 1) := by decide +kernel
theorem d_Pk_density_38 : decode b_Pk_density 38 = .ok (.aload_n 0, 1) := by decide +kernel
theorem d_Pk_density_39 : decode b_Pk_density 39 = .ok (.getfield 23, 3) := by decide +kernel
theorem d_Pk_density_42 : decode b_Pk_density 42 = .ok (.iload 6, 2) := by decide +kernel
theorem d_Pk_density_44 : decode b_Pk_density 44 = .ok (.invokevirtual 113, 3) := by decide +kernel
theorem d_Pk_density_47 : decode b_Pk_density 47 = .ok (.i2l, 1) := by decide +kernel
theorem d_Pk_density_48 : decode b_Pk_density 48 = .ok (.lmul, 1) := by decide +kernel
theorem d_Pk_density_49 : decode b_Pk_density 49 = .ok (.lload 4, 2) := by decide +kernel
theorem d_Pk_density_51 : decode b_Pk_density 51 = .ok (.ladd, 1) := by decide +kernel
theorem d_Pk_density_52 : decode b_Pk_density 52 = .ok (.lstore_n 2, 1) := by decide +kernel
theorem d_Pk_density_53 : decode b_Pk_density 53 = .ok (.lload 4, 2) := by decide +kernel
theorem d_Pk_density_55 : decode b_Pk_density 55 = .ok (.aload_n 0, 1) := by decide +kernel
theorem d_Pk_density_56 : decode b_Pk_density 56 = .ok (.getfield 23, 3) := by decide +kernel
theorem d_Pk_density_59 : decode b_Pk_density 59 = .ok (.iload 6, 2) := by decide +kernel
theorem d_Pk_density_61 : decode b_Pk_density 61 = .ok (.invokevirtual 113, 3) := by decide +kernel
theorem d_Pk_density_64 : decode b_Pk_density 64 = .ok (.i2l, 1) := by decide +kernel
theorem d_Pk_density_65 : decode b_Pk_density 65 = .ok (.lmul, 1) := by decide +kernel
theorem d_Pk_density_66 : decode b_Pk_density 66 = .ok (.lstore 4, 2) := by decide +kernel
theorem d_Pk_density_68 : decode b_Pk_density 68 = .ok (.lload_n 2, 1) := by decide +kernel
theorem d_Pk_density_69 : decode b_Pk_density 69 = .ok (.lload 4, 2) := by decide +kernel
theorem d_Pk_density_71 : decode b_Pk_density 71 = .ok (.invokestatic 126, 3) := by decide +kernel
theorem d_Pk_density_74 : decode b_Pk_density 74 = .ok (.lstore 7, 2) := by decide +kernel
theorem d_Pk_density_76 : decode b_Pk_density 76 = .ok (.lload_n 2, 1) := by decide +kernel
theorem d_Pk_density_77 : decode b_Pk_density 77 = .ok (.lload 7, 2) := by decide +kernel
theorem d_Pk_density_79 : decode b_Pk_density 79 = .ok (.ldiv, 1) := by decide +kernel
theorem d_Pk_density_80 : decode b_Pk_density 80 = .ok (.lstore_n 2, 1) := by decide +kernel
theorem d_Pk_density_81 : decode b_Pk_density 81 = .ok (.lload 4, 2) := by decide +kernel
theorem d_Pk_density_83 : decode b_Pk_density 83 = .ok (.lload 7, 2) := by decide +kernel
theorem d_Pk_density_85 : decode b_Pk_density 85 = .ok (.ldiv, 1) := by decide +kernel
theorem d_Pk_density_86 : decode b_Pk_density 86 = .ok (.lstore 4, 2) := by decide +kernel
theorem d_Pk_density_88 : decode b_Pk_density 88 = .ok (.iinc 6 1, 3) := by decide +kernel
theorem d_Pk_density_91 : decode b_Pk_density 91 = .ok (.goto (-66), 3) := by decide +kernel
theorem d_Pk_density_94 : decode b_Pk_density 94 = .ok (.iload_n 1, 1) := by decide +kernel
theorem d_Pk_density_95 : decode b_Pk_density 95 = .ok (.ifCond .ne 7, 3) := by decide +kernel
theorem d_Pk_density_98 : decode b_Pk_density 98 = .ok (.lload_n 2, 1) := by decide +kernel
theorem d_Pk_density_99 : decode b_Pk_density 99 = .ok (.goto 5, 3) := by decide +kernel
theorem d_Pk_density_102 : decode b_Pk_density 102 = .ok (.lload 4, 2) := by decide +kernel
theorem d_Pk_density_104 : decode b_Pk_density 104 = .ok (.lreturn, 1) := by decide +kernel
theorem d_Pk_commonDivisor_0 : decode b_Pk_commonDivisor 0 = .ok (.lload_n 0, 1) := by decide +kernel
theorem d_Pk_commonDivisor_1 : decode b_Pk_commonDivisor 1 = .ok (.lstore 4, 2) := by decide +kernel
theorem d_Pk_commonDivisor_3 : decode b_Pk_commonDivisor 3 = .ok (.lload_n 2, 1) := by decide +kernel
theorem d_Pk_commonDivisor_4 : decode b_Pk_commonDivisor 4 = .ok (.lstore 6, 2) := by decide +kernel
theorem d_Pk_commonDivisor_6 : decode b_Pk_commonDivisor 6 = .ok (.iconst 0, 1) := by decide +kernel
theorem d_Pk_commonDivisor_7 : decode b_Pk_commonDivisor 7 = .ok (.istore 8, 2) := by decide +kernel
theorem d_Pk_commonDivisor_9 : decode b_Pk_commonDivisor 9 = .ok (.iload 8, 2) := by decide +kernel
theorem d_Pk_commonDivisor_11 : decode b_Pk_commonDivisor 11 = .ok (.bipush 100, 2) := by decide +kernel
theorem d_Pk_commonDivisor_13 : decode b_Pk_commonDivisor 13 = .ok (.if_icmp .ge 31, 3) := by decide +kernel
theorem d_Pk_commonDivisor_16 : decode b_Pk_commonDivisor 16 = .ok (.lload 6, 2) := by decide +kernel
theorem d_Pk_commonDivisor_18 : decode b_Pk_commonDivisor 18 = .ok (.lconst 0, 1) := by decide +kernel
theorem d_Pk_commonDivisor_19 : decode b_Pk_commonDivisor 19 = .ok (.lcmp, 1) := by decide +kernel
theorem d_Pk_commonDivisor_20 : decode b_Pk_commonDivisor 20 = .ok (.ifCond .eq 24, 3) := by decide +kernel
theorem d_Pk_commonDivisor_23 : decode b_Pk_commonDivisor 23 = .ok (.lload 4, 2) := by decide +kernel
theorem d_Pk_commonDivisor_25 : decode b_Pk_commonDivisor 25 = .ok (.lload 6, 2) := by decide +kernel
theorem d_Pk_commonDivisor_27 : decode b_Pk_commonDivisor 27 = .ok (.lrem, 1) := by decide +kernel
theorem d_Pk_commonDivisor_28 : decode b_Pk_commonDivisor 28 = .ok (.lstore 9, 2) := by decide +kernel
theorem d_Pk_commonDivisor_30 : decode b_Pk_commonDivisor 30 = .ok (.lload 6, 2) := by decide +kernel
theorem d_Pk_commonDivisor_32 : decode b_Pk_commonDivisor 32 = .ok (.lstore 4, 2) := by decide +kernel
theorem d_Pk_commonDivisor_34 : decode b_Pk_commonDivisor 34 = .ok (.lload 9, 2) := by decide +kernel
theorem d_Pk_commonDivisor_36 : decode b_Pk_commonDivisor 36 = .ok (.lstore 6, 2) := by decide +kernel
theorem d_Pk_commonDivisor_38 : decode b_Pk_commonDivisor 38 = .ok (.iinc 8 1, 3) := by decide +kernel
theorem d_Pk_commonDivisor_41 : decode b_Pk_commonDivisor 41 = .ok (.goto (-32), 3) := by decide +kernel
theorem d_Pk_commonDivisor_44 : decode b_Pk_commonDivisor 44 = .ok (.lload 4, 2) := by decide +kernel
theorem d_Pk_commonDivisor_46 : decode b_Pk_commonDivisor 46 = .ok (.lconst 0, 1) := by decide +kernel
theorem d_Pk_commonDivisor_47 : decode b_Pk_commonDivisor 47 = .ok (.lcmp, 1) := by decide +kernel
theorem d_Pk_commonDivisor_48 : decode b_Pk_commonDivisor 48 = .ok (.ifCond .le 8, 3) := by decide +kernel
theorem d_Pk_commonDivisor_51 : decode b_Pk_commonDivisor 51 = .ok (.lload 4, 2) := by decide +kernel
theorem d_Pk_commonDivisor_53 : decode b_Pk_commonDivisor 53 = .ok (.goto 4, 3) := by decide +kernel
theorem d_Pk_commonDivisor_56 : decode b_Pk_commonDivisor 56 = .ok (.lconst 1, 1) := by decide +kernel
theorem d_Pk_commonDivisor_57 : decode b_Pk_commonDivisor 57 = .ok (.lreturn, 1) := by decide +kernel
theorem d_Md_init_0 : decode b_Md_init 0 = .ok (.aload_n 0, 1) := by decide +kernel
theorem d_Md_init_1 : decode b_Md_init 1 = .ok (.invokespecial 1, 3) := by decide +kernel
theorem d_Md_init_4 : decode b_Md_init 4 = .ok (.aload_n 0, 1) := by decide +kernel
theorem d_Md_init_5 : decode b_Md_init 5 = .ok (.bipush 10, 2) := by decide +kernel
theorem d_Md_init_7 : decode b_Md_init 7 = .ok (.newarray .int, 2) := by decide +kernel
theorem d_Md_init_9 : decode b_Md_init 9 = .ok (.putfield 7, 3) := by decide +kernel
theorem d_Md_init_12 : decode b_Md_init 12 = .ok (.aload_n 0, 1) := by decide +kernel
theorem d_Md_init_13 : decode b_Md_init 13 = .ok (.bipush 10, 2) := by decide +kernel
theorem d_Md_init_15 : decode b_Md_init 15 = .ok (.newarray .int, 2) := by decide +kernel
theorem d_Md_init_17 : decode b_Md_init 17 = .ok (.putfield 13, 3) := by decide +kernel
theorem d_Md_init_20 : decode b_Md_init 20 = .ok (.aload_n 0, 1) := by decide +kernel
theorem d_Md_init_21 : decode b_Md_init 21 = .ok (.bipush 10, 2) := by decide +kernel
theorem d_Md_init_23 : decode b_Md_init 23 = .ok (.newarray .int, 2) := by decide +kernel
theorem d_Md_init_25 : decode b_Md_init 25 = .ok (.putfield 16, 3) := by decide +kernel
theorem d_Md_init_28 : decode b_Md_init 28 = .ok (.aload_n 0, 1) := by decide +kernel
theorem d_Md_init_29 : decode b_Md_init 29 = .ok (.bipush 10, 2) := by decide +kernel
theorem d_Md_init_31 : decode b_Md_init 31 = .ok (.newarray .int, 2) := by decide +kernel
theorem d_Md_init_33 : decode b_Md_init 33 = .ok (.putfield 19, 3) := by decide +kernel
theorem d_Md_init_36 : decode b_Md_init 36 = .ok (.aload_n 0, 1) := by decide +kernel
theorem d_Md_init_37 : decode b_Md_init 37 = .ok (.iconst 1, 1) := by decide +kernel
theorem d_Md_init_38 : decode b_Md_init 38 = .ok (.putfield 22, 3) := by decide +kernel
theorem d_Md_init_41 : decode b_Md_init 41 = .ok (.aload_n 0, 1) := by decide +kernel
theorem d_Md_init_42 : decode b_Md_init 42 = .ok (.sipush 1600, 3) := by decide +kernel
theorem d_Md_init_45 : decode b_Md_init 45 = .ok (.newarray .int, 2) := by decide +kernel
theorem d_Md_init_47 : decode b_Md_init 47 = .ok (.putfield 26, 3) := by decide +kernel
theorem d_Md_init_50 : decode b_Md_init 50 = .ok (.aload_n 0, 1) := by decide +kernel
theorem d_Md_init_51 : decode b_Md_init 51 = .ok (.iconst (-1), 1) := by decide +kernel
theorem d_Md_init_52 : decode b_Md_init 52 = .ok (.putfield 29, 3) := by decide +kernel
theorem d_Md_init_55 : decode b_Md_init 55 = .ok (.aload_n 0, 1) := by decide +kernel
theorem d_Md_init_56 : decode b_Md_init 56 = .ok (.bipush 10, 2) := by decide +kernel
theorem d_Md_init_58 : decode b_Md_init 58 = .ok (.newarray .int, 2) := by decide +kernel
theorem d_Md_init_60 : decode b_Md_init 60 = .ok (.putfield 32, 3) := by decide +kernel
theorem d_Md_init_63 : decode b_Md_init 63 = .ok (.aload_n 0, 1) := by decide +kernel
theorem d_Md_init_64 : decode b_Md_init 64 = .ok (.bipush 10, 2) := by decide +kernel
theorem d_Md_init_66 : decode b_Md_init 66 = .ok (.newarray .int, 2) := by decide +kernel
theorem d_Md_init_68 : decode b_Md_init 68 = .ok (.putfield 35, 3) := by decide +kernel
theorem d_Md_init_71 : decode b_Md_init 71 = .ok (.aload_n 0, 1) := by decide +kernel
theorem d_Md_init_72 : decode b_Md_init 72 = .ok (.sipush 1600, 3) := by decide +kernel
theorem d_Md_init_75 : decode b_Md_init 75 = .ok (.newarray .int, 2) := by decide +kernel
theorem d_Md_init_77 : decode b_Md_init 77 = .ok (.putfield 38, 3) := by decide +kernel
theorem d_Md_init_80 : decode b_Md_init 80 = .ok (.aload_n 0, 1) := by decide +kernel
theorem d_Md_init_81 : decode b_Md_init 81 = .ok (.bipush 10, 2) := by decide +kernel
theorem d_Md_init_83 : decode b_Md_init 83 = .ok (.newarray .int, 2) := by decide +kernel
theorem d_Md_init_85 : decode b_Md_init 85 = .ok (.putfield 41, 3) := by decide +kernel
theorem d_Md_init_88 : decode b_Md_init 88 = .ok (.aload_n 0, 1) := by decide +kernel
theorem d_Md_init_89 : decode b_Md_init 89 = .ok (.bipush 10, 2) := by decide +kernel
theorem d_Md_init_91 : decode b_Md_init 91 = .ok (.newarray .int, 2) := by decide +kernel
theorem d_Md_init_93 : decode b_Md_init 93 = .ok (.putfield 44, 3) := by decide +kernel
theorem d_Md_init_96 : decode b_Md_init 96 = .ok (.aload_n 0, 1) := by decide +kernel
theorem d_Md_init_97 : decode b_Md_init 97 = .ok (.sipush 1500, 3) := by decide +kernel
theorem d_Md_init_100 : decode b_Md_init 100 = .ok (.newarray .boolean, 2) := by decide +kernel
theorem d_Md_init_102 : decode b_Md_init 102 = .ok (.putfield 47, 3) := by decide +kernel
theorem d_Md_init_105 : decode b_Md_init 105 = .ok (.aload_n 0, 1) := by decide +kernel
theorem d_Md_init_106 : decode b_Md_init 106 = .ok (.iconst 4, 1) := by decide +kernel
theorem d_Md_init_107 : decode b_Md_init 107 = .ok (.newarray .int, 2) := by decide +kernel
theorem d_Md_init_109 : decode b_Md_init 109 = .ok (.putfield 51, 3) := by decide +kernel
theorem d_Md_init_112 : decode b_Md_init 112 = .ok (.aload_n 0, 1) := by decide +kernel
theorem d_Md_init_113 : decode b_Md_init 113 = .ok (.sipush 1500, 3) := by decide +kernel
theorem d_Md_init_116 : decode b_Md_init 116 = .ok (.newarray .int, 2) := by decide +kernel
theorem d_Md_init_118 : decode b_Md_init 118 = .ok (.putfield 54, 3) := by decide +kernel
theorem d_Md_init_121 : decode b_Md_init 121 = .ok (.return_, 1) := by decide +kernel
theorem d_Md_thrown_0 : decode b_Md_thrown 0 = .ok (.aload_n 0, 1) := by decide +kernel
theorem d_Md_thrown_1 : decode b_Md_thrown 1 = .ok (.getfield 57, 3) := by decide +kernel
theorem d_Md_thrown_4 : decode b_Md_thrown 4 = .ok (.ireturn, 1) := by decide +kernel
theorem d_Md_ask_0 : decode b_Md_ask 0 = .ok (.iload_n 1, 1) := by decide +kernel
theorem d_Md_ask_1 : decode b_Md_ask 1 = .ok (.iconst 1, 1) := by decide +kernel
theorem d_Md_ask_2 : decode b_Md_ask 2 = .ok (.sipush 999, 3) := by decide +kernel
theorem d_Md_ask_5 : decode b_Md_ask 5 = .ok (.invokestatic 111, 3) := by decide +kernel
theorem d_Md_ask_8 : decode b_Md_ask 8 = .ok (.ifCond .eq 25, 3) := by decide +kernel
theorem d_Md_ask_11 : decode b_Md_ask 11 = .ok (.iload_n 2, 1) := by decide +kernel
theorem d_Md_ask_12 : decode b_Md_ask 12 = .ok (.iconst 1, 1) := by decide +kernel
theorem d_Md_ask_13 : decode b_Md_ask 13 = .ok (.bipush 40, 2) := by decide +kernel
theorem d_Md_ask_15 : decode b_Md_ask 15 = .ok (.invokestatic 111, 3) := by decide +kernel
theorem d_Md_ask_18 : decode b_Md_ask 18 = .ok (.ifCond .eq 15, 3) := by decide +kernel
theorem d_Md_ask_21 : decode b_Md_ask 21 = .ok (.aload_n 0, 1) := by decide +kernel
theorem d_Md_ask_22 : decode b_Md_ask 22 = .ok (.iload_n 1, 1) := by decide +kernel
theorem d_Md_ask_23 : decode b_Md_ask 23 = .ok (.invokevirtual 115, 3) := by decide +kernel
theorem d_Md_ask_26 : decode b_Md_ask 26 = .ok (.ifCond .ge 7, 3) := by decide +kernel
theorem d_Md_ask_29 : decode b_Md_ask 29 = .ok (.iconst 1, 1) := by decide +kernel
theorem d_Md_ask_30 : decode b_Md_ask 30 = .ok (.goto 4, 3) := by decide +kernel
theorem d_Md_ask_33 : decode b_Md_ask 33 = .ok (.iconst 0, 1) := by decide +kernel
theorem d_Md_ask_34 : decode b_Md_ask 34 = .ok (.istore_n 3, 1) := by decide +kernel
theorem d_Md_ask_35 : decode b_Md_ask 35 = .ok (.aload_n 0, 1) := by decide +kernel
theorem d_Md_ask_36 : decode b_Md_ask 36 = .ok (.iload_n 3, 1) := by decide +kernel
theorem d_Md_ask_37 : decode b_Md_ask 37 = .ok (.ifCond .ne 7, 3) := by decide +kernel
theorem d_Md_ask_40 : decode b_Md_ask 40 = .ok (.iconst 1, 1) := by decide +kernel
theorem d_Md_ask_41 : decode b_Md_ask 41 = .ok (.goto 4, 3) := by decide +kernel
theorem d_Md_ask_44 : decode b_Md_ask 44 = .ok (.iconst 0, 1) := by decide +kernel
theorem d_Md_ask_45 : decode b_Md_ask 45 = .ok (.aload_n 0, 1) := by decide +kernel
theorem d_Md_ask_46 : decode b_Md_ask 46 = .ok (.getfield 29, 3) := by decide +kernel
theorem d_Md_ask_49 : decode b_Md_ask 49 = .ok (.ifCond .le 7, 3) := by decide +kernel
theorem d_Md_ask_52 : decode b_Md_ask 52 = .ok (.iconst 1, 1) := by decide +kernel
theorem d_Md_ask_53 : decode b_Md_ask 53 = .ok (.goto 4, 3) := by decide +kernel
theorem d_Md_ask_56 : decode b_Md_ask 56 = .ok (.iconst 0, 1) := by decide +kernel
theorem d_Md_ask_57 : decode b_Md_ask 57 = .ok (.aload_n 0, 1) := by decide +kernel
end
section
theorem d_Md_ask_58 : decode b_Md_ask 58 = .ok (.getfield 60, 3) := by decide +kernel
theorem d_Md_ask_61 : decode b_Md_ask 61 = .ok (.bipush 10, 2) := by decide +kernel
theorem d_Md_ask_63 : decode b_Md_ask 63 = .ok (.if_icmp .ne 7, 3) := by decide +kernel
theorem d_Md_ask_66 : decode b_Md_ask 66 = .ok (.iconst 1, 1) := by decide +kernel
theorem d_Md_ask_67 : decode b_Md_ask 67 = .ok (.goto 4, 3) := by decide +kernel
theorem d_Md_ask_70 : decode b_Md_ask 70 = .ok (.iconst 0, 1) := by decide +kernel
theorem d_Md_ask_71 : decode b_Md_ask 71 = .ok (.invokevirtual 118, 3) := by decide +kernel
theorem d_Md_ask_74 : decode b_Md_ask 74 = .ok (.ifCond .eq 5, 3) := by decide +kernel
theorem d_Md_ask_77 : decode b_Md_ask 77 = .ok (.iconst 0, 1) := by decide +kernel
theorem d_Md_ask_78 : decode b_Md_ask 78 = .ok (.ireturn, 1) := by decide +kernel
theorem d_Md_ask_79 : decode b_Md_ask 79 = .ok (.aload_n 0, 1) := by decide +kernel
theorem d_Md_ask_80 : decode b_Md_ask 80 = .ok (.iconst 0, 1) := by decide +kernel
theorem d_Md_ask_81 : decode b_Md_ask 81 = .ok (.invokevirtual 122, 3) := by decide +kernel
theorem d_Md_ask_84 : decode b_Md_ask 84 = .ok (.aload_n 0, 1) := by decide +kernel
theorem d_Md_ask_85 : decode b_Md_ask 85 = .ok (.getfield 66, 3) := by decide +kernel
theorem d_Md_ask_88 : decode b_Md_ask 88 = .ok (.istore 4, 2) := by decide +kernel
theorem d_Md_ask_90 : decode b_Md_ask 90 = .ok (.iload 4, 2) := by decide +kernel
theorem d_Md_ask_92 : decode b_Md_ask 92 = .ok (.ifCond .le 54, 3) := by decide +kernel
theorem d_Md_ask_95 : decode b_Md_ask 95 = .ok (.aload_n 0, 1) := by decide +kernel
theorem d_Md_ask_96 : decode b_Md_ask 96 = .ok (.getfield 32, 3) := by decide +kernel
theorem d_Md_ask_99 : decode b_Md_ask 99 = .ok (.iload 4, 2) := by decide +kernel
theorem d_Md_ask_101 : decode b_Md_ask 101 = .ok (.iconst 1, 1) := by decide +kernel
theorem d_Md_ask_102 : decode b_Md_ask 102 = .ok (.isub, 1) := by decide +kernel
theorem d_Md_ask_103 : decode b_Md_ask 103 = .ok (.iaload, 1) := by decide +kernel
theorem d_Md_ask_104 : decode b_Md_ask 104 = .ok (.iload_n 1, 1) := by decide +kernel
theorem d_Md_ask_105 : decode b_Md_ask 105 = .ok (.if_icmp .le 41, 3) := by decide +kernel
theorem d_Md_ask_108 : decode b_Md_ask 108 = .ok (.aload_n 0, 1) := by decide +kernel
theorem d_Md_ask_109 : decode b_Md_ask 109 = .ok (.getfield 32, 3) := by decide +kernel
theorem d_Md_ask_112 : decode b_Md_ask 112 = .ok (.iload 4, 2) := by decide +kernel
theorem d_Md_ask_114 : decode b_Md_ask 114 = .ok (.aload_n 0, 1) := by decide +kernel
theorem d_Md_ask_115 : decode b_Md_ask 115 = .ok (.getfield 32, 3) := by decide +kernel
theorem d_Md_ask_118 : decode b_Md_ask 118 = .ok (.iload 4, 2) := by decide +kernel
theorem d_Md_ask_120 : decode b_Md_ask 120 = .ok (.iconst 1, 1) := by decide +kernel
theorem d_Md_ask_121 : decode b_Md_ask 121 = .ok (.isub, 1) := by decide +kernel
theorem d_Md_ask_122 : decode b_Md_ask 122 = .ok (.iaload, 1) := by decide +kernel
theorem d_Md_ask_123 : decode b_Md_ask 123 = .ok (.iastore, 1) := by decide +kernel
theorem d_Md_ask_124 : decode b_Md_ask 124 = .ok (.aload_n 0, 1) := by decide +kernel
theorem d_Md_ask_125 : decode b_Md_ask 125 = .ok (.getfield 35, 3) := by decide +kernel
theorem d_Md_ask_128 : decode b_Md_ask 128 = .ok (.iload 4, 2) := by decide +kernel
theorem d_Md_ask_130 : decode b_Md_ask 130 = .ok (.aload_n 0, 1) := by decide +kernel
theorem d_Md_ask_131 : decode b_Md_ask 131 = .ok (.getfield 35, 3) := by decide +kernel
theorem d_Md_ask_134 : decode b_Md_ask 134 = .ok (.iload 4, 2) := by decide +kernel
theorem d_Md_ask_136 : decode b_Md_ask 136 = .ok (.iconst 1, 1) := by decide +kernel
theorem d_Md_ask_137 : decode b_Md_ask 137 = .ok (.isub, 1) := by decide +kernel
theorem d_Md_ask_138 : decode b_Md_ask 138 = .ok (.iaload, 1) := by decide +kernel
theorem d_Md_ask_139 : decode b_Md_ask 139 = .ok (.iastore, 1) := by decide +kernel
theorem d_Md_ask_140 : decode b_Md_ask 140 = .ok (.iinc 4 (-1), 3) := by decide +kernel
theorem d_Md_ask_143 : decode b_Md_ask 143 = .ok (.goto (-53), 3) := by decide +kernel
theorem d_Md_ask_146 : decode b_Md_ask 146 = .ok (.aload_n 0, 1) := by decide +kernel
theorem d_Md_ask_147 : decode b_Md_ask 147 = .ok (.getfield 32, 3) := by decide +kernel
theorem d_Md_ask_150 : decode b_Md_ask 150 = .ok (.iload 4, 2) := by decide +kernel
theorem d_Md_ask_152 : decode b_Md_ask 152 = .ok (.iload_n 1, 1) := by decide +kernel
theorem d_Md_ask_153 : decode b_Md_ask 153 = .ok (.iastore, 1) := by decide +kernel
theorem d_Md_ask_154 : decode b_Md_ask 154 = .ok (.aload_n 0, 1) := by decide +kernel
theorem d_Md_ask_155 : decode b_Md_ask 155 = .ok (.getfield 35, 3) := by decide +kernel
theorem d_Md_ask_158 : decode b_Md_ask 158 = .ok (.iload 4, 2) := by decide +kernel
theorem d_Md_ask_160 : decode b_Md_ask 160 = .ok (.iload_n 2, 1) := by decide +kernel
theorem d_Md_ask_161 : decode b_Md_ask 161 = .ok (.iastore, 1) := by decide +kernel
theorem d_Md_ask_162 : decode b_Md_ask 162 = .ok (.aload_n 0, 1) := by decide +kernel
theorem d_Md_ask_163 : decode b_Md_ask 163 = .ok (.dup, 1) := by decide +kernel
theorem d_Md_ask_164 : decode b_Md_ask 164 = .ok (.getfield 66, 3) := by decide +kernel
theorem d_Md_ask_167 : decode b_Md_ask 167 = .ok (.iconst 1, 1) := by decide +kernel
theorem d_Md_ask_168 : decode b_Md_ask 168 = .ok (.iadd, 1) := by decide +kernel
theorem d_Md_ask_169 : decode b_Md_ask 169 = .ok (.putfield 66, 3) := by decide +kernel
theorem d_Md_ask_172 : decode b_Md_ask 172 = .ok (.aload_n 0, 1) := by decide +kernel
theorem d_Md_ask_173 : decode b_Md_ask 173 = .ok (.invokevirtual 125, 3) := by decide +kernel
theorem d_Md_ask_176 : decode b_Md_ask 176 = .ok (.istore 5, 2) := by decide +kernel
theorem d_Md_ask_178 : decode b_Md_ask 178 = .ok (.aload_n 0, 1) := by decide +kernel
theorem d_Md_ask_179 : decode b_Md_ask 179 = .ok (.iconst 0, 1) := by decide +kernel
theorem d_Md_ask_180 : decode b_Md_ask 180 = .ok (.iconst 0, 1) := by decide +kernel
theorem d_Md_ask_181 : decode b_Md_ask 181 = .ok (.iload 5, 2) := by decide +kernel
theorem d_Md_ask_183 : decode b_Md_ask 183 = .ok (.ifCond .ge 7, 3) := by decide +kernel
theorem d_Md_ask_186 : decode b_Md_ask 186 = .ok (.iconst 1, 1) := by decide +kernel
theorem d_Md_ask_187 : decode b_Md_ask 187 = .ok (.goto 4, 3) := by decide +kernel
theorem d_Md_ask_190 : decode b_Md_ask 190 = .ok (.iconst 0, 1) := by decide +kernel
theorem d_Md_ask_191 : decode b_Md_ask 191 = .ok (.invokevirtual 118, 3) := by decide +kernel
theorem d_Md_ask_194 : decode b_Md_ask 194 = .ok (.ifCond .eq 5, 3) := by decide +kernel
theorem d_Md_ask_197 : decode b_Md_ask 197 = .ok (.iconst 0, 1) := by decide +kernel
theorem d_Md_ask_198 : decode b_Md_ask 198 = .ok (.ireturn, 1) := by decide +kernel
theorem d_Md_ask_199 : decode b_Md_ask 199 = .ok (.aload_n 0, 1) := by decide +kernel
theorem d_Md_ask_200 : decode b_Md_ask 200 = .ok (.iload 5, 2) := by decide +kernel
theorem d_Md_ask_202 : decode b_Md_ask 202 = .ok (.putfield 29, 3) := by decide +kernel
theorem d_Md_ask_205 : decode b_Md_ask 205 = .ok (.iload 5, 2) := by decide +kernel
theorem d_Md_ask_207 : decode b_Md_ask 207 = .ok (.ireturn, 1) := by decide +kernel
theorem d_Md_in_0 : decode b_Md_in 0 = .ok (.iload_n 0, 1) := by decide +kernel
theorem d_Md_in_1 : decode b_Md_in 1 = .ok (.iload_n 1, 1) := by decide +kernel
theorem d_Md_in_2 : decode b_Md_in 2 = .ok (.if_icmp .lt 12, 3) := by decide +kernel
theorem d_Md_in_5 : decode b_Md_in 5 = .ok (.iload_n 0, 1) := by decide +kernel
theorem d_Md_in_6 : decode b_Md_in 6 = .ok (.iload_n 2, 1) := by decide +kernel
theorem d_Md_in_7 : decode b_Md_in 7 = .ok (.if_icmp .gt 7, 3) := by decide +kernel
theorem d_Md_in_10 : decode b_Md_in 10 = .ok (.iconst 1, 1) := by decide +kernel
theorem d_Md_in_11 : decode b_Md_in 11 = .ok (.goto 4, 3) := by decide +kernel
theorem d_Md_in_14 : decode b_Md_in 14 = .ok (.iconst 0, 1) := by decide +kernel
theorem d_Md_in_15 : decode b_Md_in 15 = .ok (.ireturn, 1) := by decide +kernel
theorem d_Md_find_0 : decode b_Md_find 0 = .ok (.iconst (-1), 1) := by decide +kernel
theorem d_Md_find_1 : decode b_Md_find 1 = .ok (.istore_n 2, 1) := by decide +kernel
theorem d_Md_find_2 : decode b_Md_find 2 = .ok (.iconst 0, 1) := by decide +kernel
theorem d_Md_find_3 : decode b_Md_find 3 = .ok (.istore_n 3, 1) := by decide +kernel
theorem d_Md_find_4 : decode b_Md_find 4 = .ok (.iload_n 3, 1) := by decide +kernel
theorem d_Md_find_5 : decode b_Md_find 5 = .ok (.aload_n 0, 1) := by decide +kernel
theorem d_Md_find_6 : decode b_Md_find 6 = .ok (.getfield 60, 3) := by decide +kernel
theorem d_Md_find_9 : decode b_Md_find 9 = .ok (.if_icmp .ge 25, 3) := by decide +kernel
theorem d_Md_find_12 : decode b_Md_find 12 = .ok (.aload_n 0, 1) := by decide +kernel
theorem d_Md_find_13 : decode b_Md_find 13 = .ok (.getfield 7, 3) := by decide +kernel
theorem d_Md_find_16 : decode b_Md_find 16 = .ok (.iload_n 3, 1) := by decide +kernel
theorem d_Md_find_17 : decode b_Md_find 17 = .ok (.iaload, 1) := by decide +kernel
theorem d_Md_find_18 : decode b_Md_find 18 = .ok (.iload_n 1, 1) := by decide +kernel
theorem d_Md_find_19 : decode b_Md_find 19 = .ok (.if_icmp .ne 7, 3) := by decide +kernel
theorem d_Md_find_22 : decode b_Md_find 22 = .ok (.iload_n 3, 1) := by decide +kernel
theorem d_Md_find_23 : decode b_Md_find 23 = .ok (.goto 4, 3) := by decide +kernel
theorem d_Md_find_26 : decode b_Md_find 26 = .ok (.iload_n 2, 1) := by decide +kernel
theorem d_Md_find_27 : decode b_Md_find 27 = .ok (.istore_n 2, 1) := by decide +kernel
theorem d_Md_find_28 : decode b_Md_find 28 = .ok (.iinc 3 1, 3) := by decide +kernel
theorem d_Md_find_31 : decode b_Md_find 31 = .ok (.goto (-27), 3) := by decide +kernel
theorem d_Md_find_34 : decode b_Md_find 34 = .ok (.iload_n 2, 1) := by decide +kernel
theorem d_Md_find_35 : decode b_Md_find 35 = .ok (.ireturn, 1) := by decide +kernel
theorem d_Md_refuse_0 : decode b_Md_refuse 0 = .ok (.aload_n 0, 1) := by decide +kernel
theorem d_Md_refuse_1 : decode b_Md_refuse 1 = .ok (.iload_n 1, 1) := by decide +kernel
theorem d_Md_refuse_2 : decode b_Md_refuse 2 = .ok (.ifCond .eq 7, 3) := by decide +kernel
theorem d_Md_refuse_5 : decode b_Md_refuse 5 = .ok (.iconst 1, 1) := by decide +kernel
theorem d_Md_refuse_6 : decode b_Md_refuse 6 = .ok (.goto 20, 3) := by decide +kernel
theorem d_Md_refuse_9 : decode b_Md_refuse 9 = .ok (.iload_n 2, 1) := by decide +kernel
theorem d_Md_refuse_10 : decode b_Md_refuse 10 = .ok (.ifCond .eq 7, 3) := by decide +kernel
theorem d_Md_refuse_13 : decode b_Md_refuse 13 = .ok (.iconst 2, 1) := by decide +kernel
theorem d_Md_refuse_14 : decode b_Md_refuse 14 = .ok (.goto 12, 3) := by decide +kernel
theorem d_Md_refuse_17 : decode b_Md_refuse 17 = .ok (.iload_n 3, 1) := by decide +kernel
theorem d_Md_refuse_18 : decode b_Md_refuse 18 = .ok (.ifCond .eq 7, 3) := by decide +kernel
theorem d_Md_refuse_21 : decode b_Md_refuse 21 = .ok (.iconst 3, 1) := by decide +kernel
theorem d_Md_refuse_22 : decode b_Md_refuse 22 = .ok (.goto 4, 3) := by decide +kernel
theorem d_Md_refuse_25 : decode b_Md_refuse 25 = .ok (.iconst 0, 1) := by decide +kernel
theorem d_Md_refuse_26 : decode b_Md_refuse 26 = .ok (.putfield 57, 3) := by decide +kernel
theorem d_Md_refuse_29 : decode b_Md_refuse 29 = .ok (.aload_n 0, 1) := by decide +kernel
theorem d_Md_refuse_30 : decode b_Md_refuse 30 = .ok (.getfield 57, 3) := by decide +kernel
theorem d_Md_refuse_33 : decode b_Md_refuse 33 = .ok (.ifCond .le 7, 3) := by decide +kernel
theorem d_Md_refuse_36 : decode b_Md_refuse 36 = .ok (.iconst 1, 1) := by decide +kernel
theorem d_Md_refuse_37 : decode b_Md_refuse 37 = .ok (.goto 4, 3) := by decide +kernel
theorem d_Md_refuse_40 : decode b_Md_refuse 40 = .ok (.iconst 0, 1) := by decide +kernel
theorem d_Md_refuse_41 : decode b_Md_refuse 41 = .ok (.ireturn, 1) := by decide +kernel
theorem d_Md_copySet_0 : decode b_Md_copySet 0 = .ok (.aload_n 0, 1) := by decide +kernel
theorem d_Md_copySet_1 : decode b_Md_copySet 1 = .ok (.iconst 0, 1) := by decide +kernel
theorem d_Md_copySet_2 : decode b_Md_copySet 2 = .ok (.putfield 66, 3) := by decide +kernel
theorem d_Md_copySet_5 : decode b_Md_copySet 5 = .ok (.iconst 0, 1) := by decide +kernel
theorem d_Md_copySet_6 : decode b_Md_copySet 6 = .ok (.istore_n 2, 1) := by decide +kernel
theorem d_Md_copySet_7 : decode b_Md_copySet 7 = .ok (.iload_n 2, 1) := by decide +kernel
theorem d_Md_copySet_8 : decode b_Md_copySet 8 = .ok (.aload_n 0, 1) := by decide +kernel
theorem d_Md_copySet_9 : decode b_Md_copySet 9 = .ok (.getfield 60, 3) := by decide +kernel
theorem d_Md_copySet_12 : decode b_Md_copySet 12 = .ok (.if_icmp .ge 59, 3) := by decide +kernel
theorem d_Md_copySet_15 : decode b_Md_copySet 15 = .ok (.aload_n 0, 1) := by decide +kernel
theorem d_Md_copySet_16 : decode b_Md_copySet 16 = .ok (.getfield 7, 3) := by decide +kernel
theorem d_Md_copySet_19 : decode b_Md_copySet 19 = .ok (.iload_n 2, 1) := by decide +kernel
theorem d_Md_copySet_20 : decode b_Md_copySet 20 = .ok (.iaload, 1) := by decide +kernel
theorem d_Md_copySet_21 : decode b_Md_copySet 21 = .ok (.iload_n 1, 1) := by decide +kernel
theorem d_Md_copySet_22 : decode b_Md_copySet 22 = .ok (.if_icmp .eq 43, 3) := by decide +kernel
theorem d_Md_copySet_25 : decode b_Md_copySet 25 = .ok (.aload_n 0, 1) := by decide +kernel
theorem d_Md_copySet_26 : decode b_Md_copySet 26 = .ok (.getfield 32, 3) := by decide +kernel
theorem d_Md_copySet_29 : decode b_Md_copySet 29 = .ok (.aload_n 0, 1) := by decide +kernel
theorem d_Md_copySet_30 : decode b_Md_copySet 30 = .ok (.getfield 66, 3) := by decide +kernel
theorem d_Md_copySet_33 : decode b_Md_copySet 33 = .ok (.aload_n 0, 1) := by decide +kernel
theorem d_Md_copySet_34 : decode b_Md_copySet 34 = .ok (.getfield 7, 3) := by decide +kernel
theorem d_Md_copySet_37 : decode b_Md_copySet 37 = .ok (.iload_n 2, 1) := by decide +kernel
theorem d_Md_copySet_38 : decode b_Md_copySet 38 = .ok (.iaload, 1) := by decide +kernel
theorem d_Md_copySet_39 : decode b_Md_copySet 39 = .ok (.iastore, 1) := by decide +kernel
theorem d_Md_copySet_40 : decode b_Md_copySet 40 = .ok (.aload_n 0, 1) := by decide +kernel
theorem d_Md_copySet_41 : decode b_Md_copySet 41 = .ok (.getfield 35, 3) := by decide +kernel
theorem d_Md_copySet_44 : decode b_Md_copySet 44 = .ok (.aload_n 0, 1) := by decide +kernel
theorem d_Md_copySet_45 : decode b_Md_copySet 45 = .ok (.getfield 66, 3) := by decide +kernel
theorem d_Md_copySet_48 : decode b_Md_copySet 48 = .ok (.aload_n 0, 1) := by decide +kernel
theorem d_Md_copySet_49 : decode b_Md_copySet 49 = .ok (.getfield 13, 3) := by decide +kernel
theorem d_Md_copySet_52 : decode b_Md_copySet 52 = .ok (.iload_n 2, 1) := by decide +kernel
theorem d_Md_copySet_53 : decode b_Md_copySet 53 = .ok (.iaload, 1) := by decide +kernel
theorem d_Md_copySet_54 : decode b_Md_copySet 54 = .ok (.iastore, 1) := by decide +kernel
theorem d_Md_copySet_55 : decode b_Md_copySet 55 = .ok (.aload_n 0, 1) := by decide +kernel
theorem d_Md_copySet_56 : decode b_Md_copySet 56 = .ok (.dup, 1) := by decide +kernel
theorem d_Md_copySet_57 : decode b_Md_copySet 57 = .ok (.getfield 66, 3) := by decide +kernel
theorem d_Md_copySet_60 : decode b_Md_copySet 60 = .ok (.iconst 1, 1) := by decide +kernel
theorem d_Md_copySet_61 : decode b_Md_copySet 61 = .ok (.iadd, 1) := by decide +kernel
theorem d_Md_copySet_62 : decode b_Md_copySet 62 = .ok (.putfield 66, 3) := by decide +kernel
theorem d_Md_copySet_65 : decode b_Md_copySet 65 = .ok (.iinc 2 1, 3) := by decide +kernel
theorem d_Md_copySet_68 : decode b_Md_copySet 68 = .ok (.goto (-61), 3) := by decide +kernel
theorem d_Md_copySet_71 : decode b_Md_copySet 71 = .ok (.return_, 1) := by decide +kernel
theorem d_Md_build_0 : decode b_Md_build 0 = .ok (.aload_n 0, 1) := by decide +kernel
theorem d_Md_build_1 : decode b_Md_build 1 = .ok (.iconst 1, 1) := by decide +kernel
theorem d_Md_build_2 : decode b_Md_build 2 = .ok (.invokevirtual 84, 3) := by decide +kernel
theorem d_Md_build_5 : decode b_Md_build 5 = .ok (.ifCond .eq 7, 3) := by decide +kernel
theorem d_Md_build_8 : decode b_Md_build 8 = .ok (.iconst 1, 1) := by decide +kernel
theorem d_Md_build_9 : decode b_Md_build 9 = .ok (.goto 26, 3) := by decide +kernel
theorem d_Md_build_12 : decode b_Md_build 12 = .ok (.aload_n 0, 1) := by decide +kernel
theorem d_Md_build_13 : decode b_Md_build 13 = .ok (.invokevirtual 104, 3) := by decide +kernel
theorem d_Md_build_16 : decode b_Md_build 16 = .ok (.ifCond .eq 7, 3) := by decide +kernel
theorem d_Md_build_19 : decode b_Md_build 19 = .ok (.iconst 2, 1) := by decide +kernel
theorem d_Md_build_20 : decode b_Md_build 20 = .ok (.goto 15, 3) := by decide +kernel
theorem d_Md_build_23 : decode b_Md_build 23 = .ok (.aload_n 0, 1) := by decide +kernel
theorem d_Md_build_24 : decode b_Md_build 24 = .ok (.invokevirtual 108, 3) := by decide +kernel
theorem d_Md_build_27 : decode b_Md_build 27 = .ok (.ifCond .eq 7, 3) := by decide +kernel
theorem d_Md_build_30 : decode b_Md_build 30 = .ok (.iconst 3, 1) := by decide +kernel
theorem d_Md_build_31 : decode b_Md_build 31 = .ok (.goto 4, 3) := by decide +kernel
theorem d_Md_build_34 : decode b_Md_build 34 = .ok (.iconst (-1), 1) := by decide +kernel
theorem d_Md_build_35 : decode b_Md_build 35 = .ok (.ireturn, 1) := by decide +kernel
theorem d_Md_lay_0 : decode b_Md_lay 0 = .ok (.aload_n 0, 1) := by decide +kernel
theorem d_Md_lay_1 : decode b_Md_lay 1 = .ok (.iload_n 1, 1) := by decide +kernel
theorem d_Md_lay_2 : decode b_Md_lay 2 = .ok (.invokevirtual 73, 3) := by decide +kernel
theorem d_Md_lay_5 : decode b_Md_lay 5 = .ok (.aload_n 0, 1) := by decide +kernel
theorem d_Md_lay_6 : decode b_Md_lay 6 = .ok (.aload_n 0, 1) := by decide +kernel
theorem d_Md_lay_7 : decode b_Md_lay 7 = .ok (.getfield 63, 3) := by decide +kernel
theorem d_Md_lay_10 : decode b_Md_lay 10 = .ok (.ifCond .ne 7, 3) := by decide +kernel
theorem d_Md_lay_13 : decode b_Md_lay 13 = .ok (.iconst 1, 1) := by decide +kernel
theorem d_Md_lay_14 : decode b_Md_lay 14 = .ok (.goto 14, 3) := by decide +kernel
theorem d_Md_lay_17 : decode b_Md_lay 17 = .ok (.aload_n 0, 1) := by decide +kernel
theorem d_Md_lay_18 : decode b_Md_lay 18 = .ok (.getfield 44, 3) := by decide +kernel
theorem d_Md_lay_21 : decode b_Md_lay 21 = .ok (.aload_n 0, 1) := by decide +kernel
theorem d_Md_lay_22 : decode b_Md_lay 22 = .ok (.getfield 63, 3) := by decide +kernel
theorem d_Md_lay_25 : decode b_Md_lay 25 = .ok (.iconst 1, 1) := by decide +kernel
theorem d_Md_lay_26 : decode b_Md_lay 26 = .ok (.isub, 1) := by decide +kernel
theorem d_Md_lay_27 : decode b_Md_lay 27 = .ok (.iaload, 1) := by decide +kernel
theorem d_Md_lay_28 : decode b_Md_lay 28 = .ok (.putfield 77, 3) := by decide +kernel
theorem d_Md_lay_31 : decode b_Md_lay 31 = .ok (.iconst 0, 1) := by decide +kernel
theorem d_Md_lay_32 : decode b_Md_lay 32 = .ok (.istore_n 2, 1) := by decide +kernel
theorem d_Md_lay_33 : decode b_Md_lay 33 = .ok (.iconst 0, 1) := by decide +kernel
theorem d_Md_lay_34 : decode b_Md_lay 34 = .ok (.istore_n 3, 1) := by decide +kernel
theorem d_Md_lay_35 : decode b_Md_lay 35 = .ok (.iload_n 3, 1) := by decide +kernel
theorem d_Md_lay_36 : decode b_Md_lay 36 = .ok (.aload_n 0, 1) := by decide +kernel
theorem d_Md_lay_37 : decode b_Md_lay 37 = .ok (.getfield 63, 3) := by decide +kernel
theorem d_Md_lay_40 : decode b_Md_lay 40 = .ok (.if_icmp .ge 23, 3) := by decide +kernel
theorem d_Md_lay_43 : decode b_Md_lay 43 = .ok (.iload_n 2, 1) := by decide +kernel
theorem d_Md_lay_44 : decode b_Md_lay 44 = .ok (.aload_n 0, 1) := by decide +kernel
theorem d_Md_lay_45 : decode b_Md_lay 45 = .ok (.getfield 77, 3) := by decide +kernel
theorem d_Md_lay_48 : decode b_Md_lay 48 = .ok (.aload_n 0, 1) := by decide +kernel
theorem d_Md_lay_49 : decode b_Md_lay 49 = .ok (.getfield 44, 3) := by decide +kernel
theorem d_Md_lay_52 : decode b_Md_lay 52 = .ok (.iload_n 3, 1) := by decide +kernel
theorem d_Md_lay_53 : decode b_Md_lay 53 = .ok (.iaload, 1) := by decide +kernel
theorem d_Md_lay_54 : decode b_Md_lay 54 = .ok (.idiv, 1) := by decide +kernel
theorem d_Md_lay_55 : decode b_Md_lay 55 = .ok (.iadd, 1) := by decide +kernel
theorem d_Md_lay_56 : decode b_Md_lay 56 = .ok (.istore_n 2, 1) := by decide +kernel
theorem d_Md_lay_57 : decode b_Md_lay 57 = .ok (.iinc 3 1, 3) := by decide +kernel
theorem d_Md_lay_60 : decode b_Md_lay 60 = .ok (.goto (-25), 3) := by decide +kernel
theorem d_Md_lay_63 : decode b_Md_lay 63 = .ok (.iload_n 2, 1) := by decide +kernel
theorem d_Md_lay_64 : decode b_Md_lay 64 = .ok (.aload_n 0, 1) := by decide +kernel
theorem d_Md_lay_65 : decode b_Md_lay 65 = .ok (.getfield 77, 3) := by decide +kernel
theorem d_Md_lay_68 : decode b_Md_lay 68 = .ok (.if_icmp .le 5, 3) := by decide +kernel
theorem d_Md_lay_71 : decode b_Md_lay 71 = .ok (.iconst 0, 1) := by decide +kernel
theorem d_Md_lay_72 : decode b_Md_lay 72 = .ok (.ireturn, 1) := by decide +kernel
theorem d_Md_lay_73 : decode b_Md_lay 73 = .ok (.iconst 0, 1) := by decide +kernel
theorem d_Md_lay_74 : decode b_Md_lay 74 = .ok (.istore_n 3, 1) := by decide +kernel
theorem d_Md_lay_75 : decode b_Md_lay 75 = .ok (.iload_n 3, 1) := by decide +kernel
theorem d_Md_lay_76 : decode b_Md_lay 76 = .ok (.aload_n 0, 1) := by decide +kernel
theorem d_Md_lay_77 : decode b_Md_lay 77 = .ok (.getfield 77, 3) := by decide +kernel
theorem d_Md_lay_80 : decode b_Md_lay 80 = .ok (.if_icmp .ge 16, 3) := by decide +kernel
theorem d_Md_lay_83 : decode b_Md_lay 83 = .ok (.aload_n 0, 1) := by decide +kernel
theorem d_Md_lay_84 : decode b_Md_lay 84 = .ok (.getfield 38, 3) := by decide +kernel
theorem d_Md_lay_87 : decode b_Md_lay 87 = .ok (.iload_n 3, 1) := by decide +kernel
theorem d_Md_lay_88 : decode b_Md_lay 88 = .ok (.iconst 0, 1) := by decide +kernel
theorem d_Md_lay_89 : decode b_Md_lay 89 = .ok (.iastore, 1) := by decide +kernel
theorem d_Md_lay_90 : decode b_Md_lay 90 = .ok (.iinc 3 1, 3) := by decide +kernel
theorem d_Md_lay_93 : decode b_Md_lay 93 = .ok (.goto (-18), 3) := by decide +kernel
theorem d_Md_lay_96 : decode b_Md_lay 96 = .ok (.iconst 0, 1) := by decide +kernel
theorem d_Md_lay_97 : decode b_Md_lay 97 = .ok (.istore_n 3, 1) := by decide +kernel
theorem d_Md_lay_98 : decode b_Md_lay 98 = .ok (.iload_n 3, 1) := by decide +kernel
theorem d_Md_lay_99 : decode b_Md_lay 99 = .ok (.aload_n 0, 1) := by decide +kernel
theorem d_Md_lay_100 : decode b_Md_lay 100 = .ok (.getfield 63, 3) := by decide +kernel
theorem d_Md_lay_103 : decode b_Md_lay 103 = .ok (.if_icmp .ge 73, 3) := by decide +kernel
theorem d_Md_lay_106 : decode b_Md_lay 106 = .ok (.iconst 0, 1) := by decide +kernel
theorem d_Md_lay_107 : decode b_Md_lay 107 = .ok (.istore 4, 2) := by decide +kernel
theorem d_Md_lay_109 : decode b_Md_lay 109 = .ok (.aload_n 0, 1) := by decide +kernel
theorem d_Md_lay_110 : decode b_Md_lay 110 = .ok (.getfield 38, 3) := by decide +kernel
theorem d_Md_lay_113 : decode b_Md_lay 113 = .ok (.iload 4, 2) := by decide +kernel
theorem d_Md_lay_115 : decode b_Md_lay 115 = .ok (.iaload, 1) := by decide +kernel
theorem d_Md_lay_116 : decode b_Md_lay 116 = .ok (.ifCond .eq 9, 3) := by decide +kernel
theorem d_Md_lay_119 : decode b_Md_lay 119 = .ok (.iinc 4 1, 3) := by decide +kernel
theorem d_Md_lay_122 : decode b_Md_lay 122 = .ok (.goto (-13), 3) := by decide +kernel
theorem d_Md_lay_125 : decode b_Md_lay 125 = .ok (.iload 4, 2) := by decide +kernel
theorem d_Md_lay_127 : decode b_Md_lay 127 = .ok (.istore 5, 2) := by decide +kernel
theorem d_Md_lay_129 : decode b_Md_lay 129 = .ok (.iload 5, 2) := by decide +kernel
theorem d_Md_lay_131 : decode b_Md_lay 131 = .ok (.aload_n 0, 1) := by decide +kernel
theorem d_Md_lay_132 : decode b_Md_lay 132 = .ok (.getfield 77, 3) := by decide +kernel
theorem d_Md_lay_135 : decode b_Md_lay 135 = .ok (.if_icmp .ge 35, 3) := by decide +kernel
theorem d_Md_lay_138 : decode b_Md_lay 138 = .ok (.aload_n 0, 1) := by decide +kernel
theorem d_Md_lay_139 : decode b_Md_lay 139 = .ok (.getfield 38, 3) := by decide +kernel
theorem d_Md_lay_142 : decode b_Md_lay 142 = .ok (.iload 5, 2) := by decide +kernel
theorem d_Md_lay_144 : decode b_Md_lay 144 = .ok (.aload_n 0, 1) := by decide +kernel
theorem d_Md_lay_145 : decode b_Md_lay 145 = .ok (.getfield 32, 3) := by decide +kernel
theorem d_Md_lay_148 : decode b_Md_lay 148 = .ok (.aload_n 0, 1) := by decide +kernel
theorem d_Md_lay_149 : decode b_Md_lay 149 = .ok (.getfield 41, 3) := by decide +kernel
theorem d_Md_lay_152 : decode b_Md_lay 152 = .ok (.iload_n 3, 1) := by decide +kernel
theorem d_Md_lay_153 : decode b_Md_lay 153 = .ok (.iaload, 1) := by decide +kernel
theorem d_Md_lay_154 : decode b_Md_lay 154 = .ok (.iaload, 1) := by decide +kernel
theorem d_Md_lay_155 : decode b_Md_lay 155 = .ok (.iastore, 1) := by decide +kernel
theorem d_Md_lay_156 : decode b_Md_lay 156 = .ok (.iload 5, 2) := by decide +kernel
theorem d_Md_lay_158 : decode b_Md_lay 158 = .ok (.aload_n 0, 1) := by decide +kernel
theorem d_Md_lay_159 : decode b_Md_lay 159 = .ok (.getfield 44, 3) := by decide +kernel
theorem d_Md_lay_162 : decode b_Md_lay 162 = .ok (.iload_n 3, 1) := by decide +kernel
theorem d_Md_lay_163 : decode b_Md_lay 163 = .ok (.iaload, 1) := by decide +kernel
theorem d_Md_lay_164 : decode b_Md_lay 164 = .ok (.iadd, 1) := by decide +kernel
theorem d_Md_lay_165 : decode b_Md_lay 165 = .ok (.istore 5, 2) := by decide +kernel
theorem d_Md_lay_167 : decode b_Md_lay 167 = .ok (.goto (-38), 3) := by decide +kernel
theorem d_Md_lay_170 : decode b_Md_lay 170 = .ok (.iinc 3 1, 3) := by decide +kernel
theorem d_Md_lay_173 : decode b_Md_lay 173 = .ok (.goto (-75), 3) := by decide +kernel
theorem d_Md_lay_176 : decode b_Md_lay 176 = .ok (.iconst 1, 1) := by decide +kernel
theorem d_Md_lay_177 : decode b_Md_lay 177 = .ok (.ireturn, 1) := by decide +kernel
theorem d_Md_arrange_0 : decode b_Md_arrange 0 = .ok (.aload_n 0, 1) := by decide +kernel
theorem d_Md_arrange_1 : decode b_Md_arrange 1 = .ok (.iconst 0, 1) := by decide +kernel
theorem d_Md_arrange_2 : decode b_Md_arrange 2 = .ok (.putfield 63, 3) := by decide +kernel
theorem d_Md_arrange_5 : decode b_Md_arrange 5 = .ok (.iconst 0, 1) := by decide +kernel
theorem d_Md_arrange_6 : decode b_Md_arrange 6 = .ok (.istore_n 2, 1) := by decide +kernel
theorem d_Md_arrange_7 : decode b_Md_arrange 7 = .ok (.iload_n 2, 1) := by decide +kernel
theorem d_Md_arrange_8 : decode b_Md_arrange 8 = .ok (.aload_n 0, 1) := by decide +kernel
theorem d_Md_arrange_9 : decode b_Md_arrange 9 = .ok (.getfield 66, 3) := by decide +kernel
theorem d_Md_arrange_12 : decode b_Md_arrange 12 = .ok (.if_icmp .ge 121, 3) := by decide +kernel
theorem d_Md_arrange_15 : decode b_Md_arrange 15 = .ok (.iload_n 1, 1) := by decide +kernel
theorem d_Md_arrange_16 : decode b_Md_arrange 16 = .ok (.ifCond .ne 12, 3) := by decide +kernel
theorem d_Md_arrange_19 : decode b_Md_arrange 19 = .ok (.aload_n 0, 1) := by decide +kernel
theorem d_Md_arrange_20 : decode b_Md_arrange 20 = .ok (.getfield 35, 3) := by decide +kernel
theorem d_Md_arrange_23 : decode b_Md_arrange 23 = .ok (.iload_n 2, 1) := by decide +kernel
theorem d_Md_arrange_24 : decode b_Md_arrange 24 = .ok (.iaload, 1) := by decide +kernel
theorem d_Md_arrange_25 : decode b_Md_arrange 25 = .ok (.goto 13, 3) := by decide +kernel
theorem d_Md_arrange_28 : decode b_Md_arrange 28 = .ok (.aload_n 0, 1) := by decide +kernel
theorem d_Md_arrange_29 : decode b_Md_arrange 29 = .ok (.getfield 35, 3) := by decide +kernel
theorem d_Md_arrange_32 : decode b_Md_arrange 32 = .ok (.iload_n 2, 1) := by decide +kernel
theorem d_Md_arrange_33 : decode b_Md_arrange 33 = .ok (.iaload, 1) := by decide +kernel
theorem d_Md_arrange_34 : decode b_Md_arrange 34 = .ok (.iload_n 1, 1) := by decide +kernel
theorem d_Md_arrange_35 : decode b_Md_arrange 35 = .ok (.invokestatic 69, 3) := by decide +kernel
theorem d_Md_arrange_38 : decode b_Md_arrange 38 = .ok (.istore_n 3, 1) := by decide +kernel
theorem d_Md_arrange_39 : decode b_Md_arrange 39 = .ok (.aload_n 0, 1) := by decide +kernel
theorem d_Md_arrange_40 : decode b_Md_arrange 40 = .ok (.getfield 63, 3) := by decide +kernel
theorem d_Md_arrange_43 : decode b_Md_arrange 43 = .ok (.istore 4, 2) := by decide +kernel
theorem d_Md_arrange_45 : decode b_Md_arrange 45 = .ok (.iload 4, 2) := by decide +kernel
theorem d_Md_arrange_47 : decode b_Md_arrange 47 = .ok (.ifCond .le 54, 3) := by decide +kernel
theorem d_Md_arrange_50 : decode b_Md_arrange 50 = .ok (.aload_n 0, 1) := by decide +kernel
theorem d_Md_arrange_51 : decode b_Md_arrange 51 = .ok (.getfield 44, 3) := by decide +kernel
theorem d_Md_arrange_54 : decode b_Md_arrange 54 = .ok (.iload 4, 2) := by decide +kernel
theorem d_Md_arrange_56 : decode b_Md_arrange 56 = .ok (.iconst 1, 1) := by decide +kernel
theorem d_Md_arrange_57 : decode b_Md_arrange 57 = .ok (.isub, 1) := by decide +kernel
theorem d_Md_arrange_58 : decode b_Md_arrange 58 = .ok (.iaload, 1) := by decide +kernel
theorem d_Md_arrange_59 : decode b_Md_arrange 59 = .ok (.iload_n 3, 1) := by decide +kernel
theorem d_Md_arrange_60 : decode b_Md_arrange 60 = .ok (.if_icmp .le 41, 3) := by decide +kernel
theorem d_Md_arrange_63 : decode b_Md_arrange 63 = .ok (.aload_n 0, 1) := by decide +kernel
theorem d_Md_arrange_64 : decode b_Md_arrange 64 = .ok (.getfield 44, 3) := by decide +kernel
theorem d_Md_arrange_67 : decode b_Md_arrange 67 = .ok (.iload 4, 2) := by decide +kernel
theorem d_Md_arrange_69 : decode b_Md_arrange 69 = .ok (.aload_n 0, 1) := by decide +kernel
theorem d_Md_arrange_70 : decode b_Md_arrange 70 = .ok (.getfield 44, 3) := by decide +kernel
theorem d_Md_arrange_73 : decode b_Md_arrange 73 = .ok (.iload 4, 2) := by decide +kernel
theorem d_Md_arrange_75 : decode b_Md_arrange 75 = .ok (.iconst 1, 1) := by decide +kernel
theorem d_Md_arrange_76 : decode b_Md_arrange 76 = .ok (.isub, 1) := by decide +kernel
theorem d_Md_arrange_77 : decode b_Md_arrange 77 = .ok (.iaload, 1) := by decide +kernel
theorem d_Md_arrange_78 : decode b_Md_arrange 78 = .ok (.iastore, 1) := by decide +kernel
theorem d_Md_arrange_79 : decode b_Md_arrange 79 = .ok (.aload_n 0, 1) := by decide +kernel
theorem d_Md_arrange_80 : decode b_Md_arrange 80 = .ok (.getfield 41, 3) := by decide +kernel
theorem d_Md_arrange_83 : decode b_Md_arrange 83 = .ok (.iload 4, 2) := by decide +kernel
theorem d_Md_arrange_85 : decode b_Md_arrange 85 = .ok (.aload_n 0, 1) := by decide +kernel
theorem d_Md_arrange_86 : decode b_Md_arrange 86 = .ok (.getfield 41, 3) := by decide +kernel
theorem d_Md_arrange_89 : decode b_Md_arrange 89 = .ok (.iload 4, 2) := by decide +kernel
theorem d_Md_arrange_91 : decode b_Md_arrange 91 = .ok (.iconst 1, 1) := by decide +kernel
theorem d_Md_arrange_92 : decode b_Md_arrange 92 = .ok (.isub, 1) := by decide +kernel
theorem d_Md_arrange_93 : decode b_Md_arrange 93 = .ok (.iaload, 1) := by decide +kernel
theorem d_Md_arrange_94 : decode b_Md_arrange 94 = .ok (.iastore, 1) := by decide +kernel
theorem d_Md_arrange_95 : decode b_Md_arrange 95 = .ok (.iinc 4 (-1), 3) := by decide +kernel
theorem d_Md_arrange_98 : decode b_Md_arrange 98 = .ok (.goto (-53), 3) := by decide +kernel
theorem d_Md_arrange_101 : decode b_Md_arrange 101 = .ok (.aload_n 0, 1) := by decide +kernel
theorem d_Md_arrange_102 : decode b_Md_arrange 102 = .ok (.getfield 44, 3) := by decide +kernel
theorem d_Md_arrange_105 : decode b_Md_arrange 105 = .ok (.iload 4, 2) := by decide +kernel
theorem d_Md_arrange_107 : decode b_Md_arrange 107 = .ok (.iload_n 3, 1) := by decide +kernel
theorem d_Md_arrange_108 : decode b_Md_arrange 108 = .ok (.iastore, 1) := by decide +kernel
theorem d_Md_arrange_109 : decode b_Md_arrange 109 = .ok (.aload_n 0, 1) := by decide +kernel
theorem d_Md_arrange_110 : decode b_Md_arrange 110 = .ok (.getfield 41, 3) := by decide +kernel
theorem d_Md_arrange_113 : decode b_Md_arrange 113 = .ok (.iload 4, 2) := by decide +kernel
theorem d_Md_arrange_115 : decode b_Md_arrange 115 = .ok (.iload_n 2, 1) := by decide +kernel
theorem d_Md_arrange_116 : decode b_Md_arrange 116 = .ok (.iastore, 1) := by decide +kernel
theorem d_Md_arrange_117 : decode b_Md_arrange 117 = .ok (.aload_n 0, 1) := by decide +kernel
theorem d_Md_arrange_118 : decode b_Md_arrange 118 = .ok (.dup, 1) := by decide +kernel
theorem d_Md_arrange_119 : decode b_Md_arrange 119 = .ok (.getfield 63, 3) := by decide +kernel
theorem d_Md_arrange_122 : decode b_Md_arrange 122 = .ok (.iconst 1, 1) := by decide +kernel
theorem d_Md_arrange_123 : decode b_Md_arrange 123 = .ok (.iadd, 1) := by decide +kernel
theorem d_Md_arrange_124 : decode b_Md_arrange 124 = .ok (.putfield 63, 3) := by decide +kernel
theorem d_Md_arrange_127 : decode b_Md_arrange 127 = .ok (.iinc 2 1, 3) := by decide +kernel
theorem d_Md_arrange_130 : decode b_Md_arrange 130 = .ok (.goto (-123), 3) := by decide +kernel
theorem d_Md_arrange_133 : decode b_Md_arrange 133 = .ok (.return_, 1) := by decide +kernel
theorem d_Md_round_0 : decode b_Md_round 0 = .ok (.iload_n 1, 1) := by decide +kernel
theorem d_Md_round_1 : decode b_Md_round 1 = .ok (.istore_n 2, 1) := by decide +kernel
theorem d_Md_round_2 : decode b_Md_round 2 = .ok (.iconst 2, 1) := by decide +kernel
theorem d_Md_round_3 : decode b_Md_round 3 = .ok (.iload_n 2, 1) := by decide +kernel
theorem d_Md_round_4 : decode b_Md_round 4 = .ok (.imul, 1) := by decide +kernel
theorem d_Md_round_5 : decode b_Md_round 5 = .ok (.iload_n 0, 1) := by decide +kernel
theorem d_Md_round_6 : decode b_Md_round 6 = .ok (.if_icmp .gt 10, 3) := by decide +kernel
theorem d_Md_round_9 : decode b_Md_round 9 = .ok (.iconst 2, 1) := by decide +kernel
theorem d_Md_round_10 : decode b_Md_round 10 = .ok (.iload_n 2, 1) := by decide +kernel
theorem d_Md_round_11 : decode b_Md_round 11 = .ok (.imul, 1) := by decide +kernel
theorem d_Md_round_12 : decode b_Md_round 12 = .ok (.istore_n 2, 1) := by decide +kernel
theorem d_Md_round_13 : decode b_Md_round 13 = .ok (.goto (-11), 3) := by decide +kernel
theorem d_Md_round_16 : decode b_Md_round 16 = .ok (.iload_n 2, 1) := by decide +kernel
theorem d_Md_round_17 : decode b_Md_round 17 = .ok (.ireturn, 1) := by decide +kernel
theorem d_Md_byBases_0 : decode b_Md_byBases 0 = .ok (.aload_n 0, 1) := by decide +kernel
theorem d_Md_byBases_1 : decode b_Md_byBases 1 = .ok (.invokevirtual 80, 3) := by decide +kernel
theorem d_Md_byBases_4 : decode b_Md_byBases 4 = .ok (.istore_n 1, 1) := by decide +kernel
theorem d_Md_byBases_5 : decode b_Md_byBases 5 = .ok (.iconst 3, 1) := by decide +kernel
theorem d_Md_byBases_6 : decode b_Md_byBases 6 = .ok (.istore_n 2, 1) := by decide +kernel
theorem d_Md_byBases_7 : decode b_Md_byBases 7 = .ok (.iload_n 2, 1) := by decide +kernel
theorem d_Md_byBases_8 : decode b_Md_byBases 8 = .ok (.bipush 16, 2) := by decide +kernel
theorem d_Md_byBases_10 : decode b_Md_byBases 10 = .ok (.if_icmp .ge 25, 3) := by decide +kernel
theorem d_Md_byBases_13 : decode b_Md_byBases 13 = .ok (.iload_n 2, 1) := by decide +kernel
theorem d_Md_byBases_14 : decode b_Md_byBases 14 = .ok (.iload_n 1, 1) := by decide +kernel
theorem d_Md_byBases_15 : decode b_Md_byBases 15 = .ok (.if_icmp .gt 20, 3) := by decide +kernel
end
section
theorem d_Md_byBases_18 : decode b_Md_byBases 18 = .ok (.aload_n 0, 1) := by decide +kernel
theorem d_Md_byBases_19 : decode b_Md_byBases 19 = .ok (.iload_n 2, 1) := by decide +kernel
theorem d_Md_byBases_20 : decode b_Md_byBases 20 = .ok (.invokevirtual 84, 3) := by decide +kernel
theorem d_Md_byBases_23 : decode b_Md_byBases 23 = .ok (.ifCond .eq 5, 3) := by decide +kernel
theorem d_Md_byBases_26 : decode b_Md_byBases 26 = .ok (.iconst 1, 1) := by decide +kernel
theorem d_Md_byBases_27 : decode b_Md_byBases 27 = .ok (.ireturn, 1) := by decide +kernel
theorem d_Md_byBases_28 : decode b_Md_byBases 28 = .ok (.iload_n 2, 1) := by decide +kernel
theorem d_Md_byBases_29 : decode b_Md_byBases 29 = .ok (.iconst 2, 1) := by decide +kernel
theorem d_Md_byBases_30 : decode b_Md_byBases 30 = .ok (.iadd, 1) := by decide +kernel
theorem d_Md_byBases_31 : decode b_Md_byBases 31 = .ok (.istore_n 2, 1) := by decide +kernel
theorem d_Md_byBases_32 : decode b_Md_byBases 32 = .ok (.goto (-25), 3) := by decide +kernel
theorem d_Md_byBases_35 : decode b_Md_byBases 35 = .ok (.iconst 0, 1) := by decide +kernel
theorem d_Md_byBases_36 : decode b_Md_byBases 36 = .ok (.ireturn, 1) := by decide +kernel
theorem d_Md_leastSpan_0 : decode b_Md_leastSpan 0 = .ok (.bipush 99, 2) := by decide +kernel
theorem d_Md_leastSpan_2 : decode b_Md_leastSpan 2 = .ok (.istore_n 1, 1) := by decide +kernel
theorem d_Md_leastSpan_3 : decode b_Md_leastSpan 3 = .ok (.iconst 0, 1) := by decide +kernel
theorem d_Md_leastSpan_4 : decode b_Md_leastSpan 4 = .ok (.istore_n 2, 1) := by decide +kernel
theorem d_Md_leastSpan_5 : decode b_Md_leastSpan 5 = .ok (.iload_n 2, 1) := by decide +kernel
theorem d_Md_leastSpan_6 : decode b_Md_leastSpan 6 = .ok (.aload_n 0, 1) := by decide +kernel
theorem d_Md_leastSpan_7 : decode b_Md_leastSpan 7 = .ok (.getfield 66, 3) := by decide +kernel
theorem d_Md_leastSpan_10 : decode b_Md_leastSpan 10 = .ok (.if_icmp .ge 30, 3) := by decide +kernel
theorem d_Md_leastSpan_13 : decode b_Md_leastSpan 13 = .ok (.aload_n 0, 1) := by decide +kernel
theorem d_Md_leastSpan_14 : decode b_Md_leastSpan 14 = .ok (.getfield 35, 3) := by decide +kernel
theorem d_Md_leastSpan_17 : decode b_Md_leastSpan 17 = .ok (.iload_n 2, 1) := by decide +kernel
theorem d_Md_leastSpan_18 : decode b_Md_leastSpan 18 = .ok (.iaload, 1) := by decide +kernel
theorem d_Md_leastSpan_19 : decode b_Md_leastSpan 19 = .ok (.iload_n 1, 1) := by decide +kernel
theorem d_Md_leastSpan_20 : decode b_Md_leastSpan 20 = .ok (.if_icmp .ge 12, 3) := by decide +kernel
theorem d_Md_leastSpan_23 : decode b_Md_leastSpan 23 = .ok (.aload_n 0, 1) := by decide +kernel
theorem d_Md_leastSpan_24 : decode b_Md_leastSpan 24 = .ok (.getfield 35, 3) := by decide +kernel
theorem d_Md_leastSpan_27 : decode b_Md_leastSpan 27 = .ok (.iload_n 2, 1) := by decide +kernel
theorem d_Md_leastSpan_28 : decode b_Md_leastSpan 28 = .ok (.iaload, 1) := by decide +kernel
theorem d_Md_leastSpan_29 : decode b_Md_leastSpan 29 = .ok (.goto 4, 3) := by decide +kernel
theorem d_Md_leastSpan_32 : decode b_Md_leastSpan 32 = .ok (.iload_n 1, 1) := by decide +kernel
theorem d_Md_leastSpan_33 : decode b_Md_leastSpan 33 = .ok (.istore_n 1, 1) := by decide +kernel
theorem d_Md_leastSpan_34 : decode b_Md_leastSpan 34 = .ok (.iinc 2 1, 3) := by decide +kernel
theorem d_Md_leastSpan_37 : decode b_Md_leastSpan 37 = .ok (.goto (-32), 3) := by decide +kernel
theorem d_Md_leastSpan_40 : decode b_Md_leastSpan 40 = .ok (.iload_n 1, 1) := by decide +kernel
theorem d_Md_leastSpan_41 : decode b_Md_leastSpan 41 = .ok (.ireturn, 1) := by decide +kernel
theorem d_Md_byStates_0 : decode b_Md_byStates 0 = .ok (.aload_n 0, 1) := by decide +kernel
theorem d_Md_byStates_1 : decode b_Md_byStates 1 = .ok (.iconst 0, 1) := by decide +kernel
theorem d_Md_byStates_2 : decode b_Md_byStates 2 = .ok (.invokevirtual 73, 3) := by decide +kernel
theorem d_Md_byStates_5 : decode b_Md_byStates 5 = .ok (.aload_n 0, 1) := by decide +kernel
theorem d_Md_byStates_6 : decode b_Md_byStates 6 = .ok (.invokevirtual 98, 3) := by decide +kernel
theorem d_Md_byStates_9 : decode b_Md_byStates 9 = .ok (.istore_n 1, 1) := by decide +kernel
theorem d_Md_byStates_10 : decode b_Md_byStates 10 = .ok (.iload_n 1, 1) := by decide +kernel
theorem d_Md_byStates_11 : decode b_Md_byStates 11 = .ok (.sipush 1500, 3) := by decide +kernel
theorem d_Md_byStates_14 : decode b_Md_byStates 14 = .ok (.if_icmp .gt 11, 3) := by decide +kernel
theorem d_Md_byStates_17 : decode b_Md_byStates 17 = .ok (.aload_n 0, 1) := by decide +kernel
theorem d_Md_byStates_18 : decode b_Md_byStates 18 = .ok (.iload_n 1, 1) := by decide +kernel
theorem d_Md_byStates_19 : decode b_Md_byStates 19 = .ok (.invokevirtual 101, 3) := by decide +kernel
theorem d_Md_byStates_22 : decode b_Md_byStates 22 = .ok (.ifCond .ne 5, 3) := by decide +kernel
theorem d_Md_byStates_25 : decode b_Md_byStates 25 = .ok (.iconst 0, 1) := by decide +kernel
theorem d_Md_byStates_26 : decode b_Md_byStates 26 = .ok (.ireturn, 1) := by decide +kernel
theorem d_Md_byStates_27 : decode b_Md_byStates 27 = .ok (.iconst 0, 1) := by decide +kernel
theorem d_Md_byStates_28 : decode b_Md_byStates 28 = .ok (.istore_n 2, 1) := by decide +kernel
theorem d_Md_byStates_29 : decode b_Md_byStates 29 = .ok (.iload_n 2, 1) := by decide +kernel
theorem d_Md_byStates_30 : decode b_Md_byStates 30 = .ok (.iload_n 1, 1) := by decide +kernel
theorem d_Md_byStates_31 : decode b_Md_byStates 31 = .ok (.if_icmp .ge 16, 3) := by decide +kernel
theorem d_Md_byStates_34 : decode b_Md_byStates 34 = .ok (.aload_n 0, 1) := by decide +kernel
theorem d_Md_byStates_35 : decode b_Md_byStates 35 = .ok (.getfield 54, 3) := by decide +kernel
theorem d_Md_byStates_38 : decode b_Md_byStates 38 = .ok (.iload_n 2, 1) := by decide +kernel
theorem d_Md_byStates_39 : decode b_Md_byStates 39 = .ok (.iconst (-1), 1) := by decide +kernel
theorem d_Md_byStates_40 : decode b_Md_byStates 40 = .ok (.iastore, 1) := by decide +kernel
theorem d_Md_byStates_41 : decode b_Md_byStates 41 = .ok (.iinc 2 1, 3) := by decide +kernel
theorem d_Md_byStates_44 : decode b_Md_byStates 44 = .ok (.goto (-15), 3) := by decide +kernel
theorem d_Md_byStates_47 : decode b_Md_byStates 47 = .ok (.iload_n 1, 1) := by decide +kernel
theorem d_Md_byStates_48 : decode b_Md_byStates 48 = .ok (.iconst 1, 1) := by decide +kernel
theorem d_Md_byStates_49 : decode b_Md_byStates 49 = .ok (.isub, 1) := by decide +kernel
theorem d_Md_byStates_50 : decode b_Md_byStates 50 = .ok (.istore_n 2, 1) := by decide +kernel
theorem d_Md_byStates_51 : decode b_Md_byStates 51 = .ok (.iconst 0, 1) := by decide +kernel
theorem d_Md_byStates_52 : decode b_Md_byStates 52 = .ok (.istore_n 3, 1) := by decide +kernel
theorem d_Md_byStates_53 : decode b_Md_byStates 53 = .ok (.aload_n 0, 1) := by decide +kernel
theorem d_Md_byStates_54 : decode b_Md_byStates 54 = .ok (.getfield 54, 3) := by decide +kernel
theorem d_Md_byStates_57 : decode b_Md_byStates 57 = .ok (.iload_n 2, 1) := by decide +kernel
theorem d_Md_byStates_58 : decode b_Md_byStates 58 = .ok (.iaload, 1) := by decide +kernel
theorem d_Md_byStates_59 : decode b_Md_byStates 59 = .ok (.ifCond .ge 49, 3) := by decide +kernel
theorem d_Md_byStates_62 : decode b_Md_byStates 62 = .ok (.aload_n 0, 1) := by decide +kernel
theorem d_Md_byStates_63 : decode b_Md_byStates 63 = .ok (.getfield 54, 3) := by decide +kernel
theorem d_Md_byStates_66 : decode b_Md_byStates 66 = .ok (.iload_n 2, 1) := by decide +kernel
theorem d_Md_byStates_67 : decode b_Md_byStates 67 = .ok (.iload_n 3, 1) := by decide +kernel
theorem d_Md_byStates_68 : decode b_Md_byStates 68 = .ok (.iastore, 1) := by decide +kernel
theorem d_Md_byStates_69 : decode b_Md_byStates 69 = .ok (.aload_n 0, 1) := by decide +kernel
theorem d_Md_byStates_70 : decode b_Md_byStates 70 = .ok (.iload_n 2, 1) := by decide +kernel
theorem d_Md_byStates_71 : decode b_Md_byStates 71 = .ok (.invokevirtual 94, 3) := by decide +kernel
theorem d_Md_byStates_74 : decode b_Md_byStates 74 = .ok (.istore 4, 2) := by decide +kernel
theorem d_Md_byStates_76 : decode b_Md_byStates 76 = .ok (.aload_n 0, 1) := by decide +kernel
theorem d_Md_byStates_77 : decode b_Md_byStates 77 = .ok (.getfield 38, 3) := by decide +kernel
theorem d_Md_byStates_80 : decode b_Md_byStates 80 = .ok (.iload_n 3, 1) := by decide +kernel
theorem d_Md_byStates_81 : decode b_Md_byStates 81 = .ok (.aload_n 0, 1) := by decide +kernel
theorem d_Md_byStates_82 : decode b_Md_byStates 82 = .ok (.getfield 32, 3) := by decide +kernel
theorem d_Md_byStates_85 : decode b_Md_byStates 85 = .ok (.aload_n 0, 1) := by decide +kernel
theorem d_Md_byStates_86 : decode b_Md_byStates 86 = .ok (.getfield 41, 3) := by decide +kernel
theorem d_Md_byStates_89 : decode b_Md_byStates 89 = .ok (.iload 4, 2) := by decide +kernel
theorem d_Md_byStates_91 : decode b_Md_byStates 91 = .ok (.iaload, 1) := by decide +kernel
theorem d_Md_byStates_92 : decode b_Md_byStates 92 = .ok (.iaload, 1) := by decide +kernel
theorem d_Md_byStates_93 : decode b_Md_byStates 93 = .ok (.iastore, 1) := by decide +kernel
theorem d_Md_byStates_94 : decode b_Md_byStates 94 = .ok (.aload_n 0, 1) := by decide +kernel
theorem d_Md_byStates_95 : decode b_Md_byStates 95 = .ok (.iload_n 2, 1) := by decide +kernel
theorem d_Md_byStates_96 : decode b_Md_byStates 96 = .ok (.iload 4, 2) := by decide +kernel
theorem d_Md_byStates_98 : decode b_Md_byStates 98 = .ok (.invokevirtual 91, 3) := by decide +kernel
theorem d_Md_byStates_101 : decode b_Md_byStates 101 = .ok (.istore_n 2, 1) := by decide +kernel
theorem d_Md_byStates_102 : decode b_Md_byStates 102 = .ok (.iinc 3 1, 3) := by decide +kernel
theorem d_Md_byStates_105 : decode b_Md_byStates 105 = .ok (.goto (-52), 3) := by decide +kernel
theorem d_Md_byStates_108 : decode b_Md_byStates 108 = .ok (.aload_n 0, 1) := by decide +kernel
theorem d_Md_byStates_109 : decode b_Md_byStates 109 = .ok (.getfield 54, 3) := by decide +kernel
theorem d_Md_byStates_112 : decode b_Md_byStates 112 = .ok (.iload_n 2, 1) := by decide +kernel
theorem d_Md_byStates_113 : decode b_Md_byStates 113 = .ok (.iaload, 1) := by decide +kernel
theorem d_Md_byStates_114 : decode b_Md_byStates 114 = .ok (.istore 4, 2) := by decide +kernel
theorem d_Md_byStates_116 : decode b_Md_byStates 116 = .ok (.aload_n 0, 1) := by decide +kernel
theorem d_Md_byStates_117 : decode b_Md_byStates 117 = .ok (.iload_n 3, 1) := by decide +kernel
theorem d_Md_byStates_118 : decode b_Md_byStates 118 = .ok (.iload 4, 2) := by decide +kernel
theorem d_Md_byStates_120 : decode b_Md_byStates 120 = .ok (.isub, 1) := by decide +kernel
theorem d_Md_byStates_121 : decode b_Md_byStates 121 = .ok (.putfield 77, 3) := by decide +kernel
theorem d_Md_byStates_124 : decode b_Md_byStates 124 = .ok (.iconst 0, 1) := by decide +kernel
theorem d_Md_byStates_125 : decode b_Md_byStates 125 = .ok (.istore 5, 2) := by decide +kernel
theorem d_Md_byStates_127 : decode b_Md_byStates 127 = .ok (.iload 5, 2) := by decide +kernel
theorem d_Md_byStates_129 : decode b_Md_byStates 129 = .ok (.aload_n 0, 1) := by decide +kernel
theorem d_Md_byStates_130 : decode b_Md_byStates 130 = .ok (.getfield 77, 3) := by decide +kernel
theorem d_Md_byStates_133 : decode b_Md_byStates 133 = .ok (.if_icmp .ge 26, 3) := by decide +kernel
theorem d_Md_byStates_136 : decode b_Md_byStates 136 = .ok (.aload_n 0, 1) := by decide +kernel
theorem d_Md_byStates_137 : decode b_Md_byStates 137 = .ok (.getfield 38, 3) := by decide +kernel
theorem d_Md_byStates_140 : decode b_Md_byStates 140 = .ok (.iload 5, 2) := by decide +kernel
theorem d_Md_byStates_142 : decode b_Md_byStates 142 = .ok (.aload_n 0, 1) := by decide +kernel
theorem d_Md_byStates_143 : decode b_Md_byStates 143 = .ok (.getfield 38, 3) := by decide +kernel
theorem d_Md_byStates_146 : decode b_Md_byStates 146 = .ok (.iload 4, 2) := by decide +kernel
theorem d_Md_byStates_148 : decode b_Md_byStates 148 = .ok (.iload 5, 2) := by decide +kernel
theorem d_Md_byStates_150 : decode b_Md_byStates 150 = .ok (.iadd, 1) := by decide +kernel
theorem d_Md_byStates_151 : decode b_Md_byStates 151 = .ok (.iaload, 1) := by decide +kernel
theorem d_Md_byStates_152 : decode b_Md_byStates 152 = .ok (.iastore, 1) := by decide +kernel
theorem d_Md_byStates_153 : decode b_Md_byStates 153 = .ok (.iinc 5 1, 3) := by decide +kernel
theorem d_Md_byStates_156 : decode b_Md_byStates 156 = .ok (.goto (-29), 3) := by decide +kernel
theorem d_Md_byStates_159 : decode b_Md_byStates 159 = .ok (.iconst 1, 1) := by decide +kernel
theorem d_Md_byStates_160 : decode b_Md_byStates 160 = .ok (.ireturn, 1) := by decide +kernel
theorem d_Md_product_0 : decode b_Md_product 0 = .ok (.aload_n 0, 1) := by decide +kernel
theorem d_Md_product_1 : decode b_Md_product 1 = .ok (.getfield 63, 3) := by decide +kernel
theorem d_Md_product_4 : decode b_Md_product 4 = .ok (.iconst 4, 1) := by decide +kernel
theorem d_Md_product_5 : decode b_Md_product 5 = .ok (.if_icmp .le 9, 3) := by decide +kernel
theorem d_Md_product_8 : decode b_Md_product 8 = .ok (.sipush 1501, 3) := by decide +kernel
theorem d_Md_product_11 : decode b_Md_product 11 = .ok (.goto 4, 3) := by decide +kernel
theorem d_Md_product_14 : decode b_Md_product 14 = .ok (.iconst 1, 1) := by decide +kernel
theorem d_Md_product_15 : decode b_Md_product 15 = .ok (.istore_n 1, 1) := by decide +kernel
theorem d_Md_product_16 : decode b_Md_product 16 = .ok (.iconst 0, 1) := by decide +kernel
theorem d_Md_product_17 : decode b_Md_product 17 = .ok (.istore_n 2, 1) := by decide +kernel
theorem d_Md_product_18 : decode b_Md_product 18 = .ok (.iload_n 2, 1) := by decide +kernel
theorem d_Md_product_19 : decode b_Md_product 19 = .ok (.aload_n 0, 1) := by decide +kernel
theorem d_Md_product_20 : decode b_Md_product 20 = .ok (.getfield 63, 3) := by decide +kernel
theorem d_Md_product_23 : decode b_Md_product 23 = .ok (.if_icmp .ge 25, 3) := by decide +kernel
theorem d_Md_product_26 : decode b_Md_product 26 = .ok (.iload_n 1, 1) := by decide +kernel
theorem d_Md_product_27 : decode b_Md_product 27 = .ok (.sipush 1500, 3) := by decide +kernel
theorem d_Md_product_30 : decode b_Md_product 30 = .ok (.if_icmp .gt 18, 3) := by decide +kernel
theorem d_Md_product_33 : decode b_Md_product 33 = .ok (.iload_n 1, 1) := by decide +kernel
theorem d_Md_product_34 : decode b_Md_product 34 = .ok (.aload_n 0, 1) := by decide +kernel
theorem d_Md_product_35 : decode b_Md_product 35 = .ok (.getfield 44, 3) := by decide +kernel
theorem d_Md_product_38 : decode b_Md_product 38 = .ok (.iload_n 2, 1) := by decide +kernel
theorem d_Md_product_39 : decode b_Md_product 39 = .ok (.iaload, 1) := by decide +kernel
theorem d_Md_product_40 : decode b_Md_product 40 = .ok (.imul, 1) := by decide +kernel
theorem d_Md_product_41 : decode b_Md_product 41 = .ok (.istore_n 1, 1) := by decide +kernel
theorem d_Md_product_42 : decode b_Md_product 42 = .ok (.iinc 2 1, 3) := by decide +kernel
theorem d_Md_product_45 : decode b_Md_product 45 = .ok (.goto (-27), 3) := by decide +kernel
theorem d_Md_product_48 : decode b_Md_product 48 = .ok (.iload_n 1, 1) := by decide +kernel
theorem d_Md_product_49 : decode b_Md_product 49 = .ok (.ireturn, 1) := by decide +kernel
theorem d_Md_isSafe_0 : decode b_Md_isSafe 0 = .ok (.iconst 0, 1) := by decide +kernel
theorem d_Md_isSafe_1 : decode b_Md_isSafe 1 = .ok (.istore_n 2, 1) := by decide +kernel
theorem d_Md_isSafe_2 : decode b_Md_isSafe 2 = .ok (.iload_n 2, 1) := by decide +kernel
theorem d_Md_isSafe_3 : decode b_Md_isSafe 3 = .ok (.iload_n 1, 1) := by decide +kernel
theorem d_Md_isSafe_4 : decode b_Md_isSafe 4 = .ok (.if_icmp .ge 16, 3) := by decide +kernel
theorem d_Md_isSafe_7 : decode b_Md_isSafe 7 = .ok (.aload_n 0, 1) := by decide +kernel
theorem d_Md_isSafe_8 : decode b_Md_isSafe 8 = .ok (.getfield 47, 3) := by decide +kernel
theorem d_Md_isSafe_11 : decode b_Md_isSafe 11 = .ok (.iload_n 2, 1) := by decide +kernel
theorem d_Md_isSafe_12 : decode b_Md_isSafe 12 = .ok (.iconst 1, 1) := by decide +kernel
theorem d_Md_isSafe_13 : decode b_Md_isSafe 13 = .ok (.bastore, 1) := by decide +kernel
theorem d_Md_isSafe_14 : decode b_Md_isSafe 14 = .ok (.iinc 2 1, 3) := by decide +kernel
theorem d_Md_isSafe_17 : decode b_Md_isSafe 17 = .ok (.goto (-15), 3) := by decide +kernel
theorem d_Md_isSafe_20 : decode b_Md_isSafe 20 = .ok (.aload_n 0, 1) := by decide +kernel
theorem d_Md_isSafe_21 : decode b_Md_isSafe 21 = .ok (.getfield 63, 3) := by decide +kernel
theorem d_Md_isSafe_24 : decode b_Md_isSafe 24 = .ok (.ifCond .le 7, 3) := by decide +kernel
theorem d_Md_isSafe_27 : decode b_Md_isSafe 27 = .ok (.iconst 1, 1) := by decide +kernel
theorem d_Md_isSafe_28 : decode b_Md_isSafe 28 = .ok (.goto 4, 3) := by decide +kernel
theorem d_Md_isSafe_31 : decode b_Md_isSafe 31 = .ok (.iconst 0, 1) := by decide +kernel
theorem d_Md_isSafe_32 : decode b_Md_isSafe 32 = .ok (.istore_n 2, 1) := by decide +kernel
theorem d_Md_isSafe_33 : decode b_Md_isSafe 33 = .ok (.iload_n 2, 1) := by decide +kernel
theorem d_Md_isSafe_34 : decode b_Md_isSafe 34 = .ok (.ifCond .eq 47, 3) := by decide +kernel
theorem d_Md_isSafe_37 : decode b_Md_isSafe 37 = .ok (.iconst 0, 1) := by decide +kernel
theorem d_Md_isSafe_38 : decode b_Md_isSafe 38 = .ok (.istore_n 2, 1) := by decide +kernel
theorem d_Md_isSafe_39 : decode b_Md_isSafe 39 = .ok (.iconst 0, 1) := by decide +kernel
theorem d_Md_isSafe_40 : decode b_Md_isSafe 40 = .ok (.istore_n 3, 1) := by decide +kernel
theorem d_Md_isSafe_41 : decode b_Md_isSafe 41 = .ok (.iload_n 3, 1) := by decide +kernel
theorem d_Md_isSafe_42 : decode b_Md_isSafe 42 = .ok (.iload_n 1, 1) := by decide +kernel
theorem d_Md_isSafe_43 : decode b_Md_isSafe 43 = .ok (.if_icmp .ge 35, 3) := by decide +kernel
theorem d_Md_isSafe_46 : decode b_Md_isSafe 46 = .ok (.aload_n 0, 1) := by decide +kernel
theorem d_Md_isSafe_47 : decode b_Md_isSafe 47 = .ok (.getfield 47, 3) := by decide +kernel
theorem d_Md_isSafe_50 : decode b_Md_isSafe 50 = .ok (.iload_n 3, 1) := by decide +kernel
theorem d_Md_isSafe_51 : decode b_Md_isSafe 51 = .ok (.baload, 1) := by decide +kernel
theorem d_Md_isSafe_52 : decode b_Md_isSafe 52 = .ok (.ifCond .eq 20, 3) := by decide +kernel
theorem d_Md_isSafe_55 : decode b_Md_isSafe 55 = .ok (.aload_n 0, 1) := by decide +kernel
theorem d_Md_isSafe_56 : decode b_Md_isSafe 56 = .ok (.iload_n 3, 1) := by decide +kernel
theorem d_Md_isSafe_57 : decode b_Md_isSafe 57 = .ok (.invokevirtual 94, 3) := by decide +kernel
theorem d_Md_isSafe_60 : decode b_Md_isSafe 60 = .ok (.ifCond .ge 12, 3) := by decide +kernel
theorem d_Md_isSafe_63 : decode b_Md_isSafe 63 = .ok (.aload_n 0, 1) := by decide +kernel
theorem d_Md_isSafe_64 : decode b_Md_isSafe 64 = .ok (.getfield 47, 3) := by decide +kernel
theorem d_Md_isSafe_67 : decode b_Md_isSafe 67 = .ok (.iload_n 3, 1) := by decide +kernel
theorem d_Md_isSafe_68 : decode b_Md_isSafe 68 = .ok (.iconst 0, 1) := by decide +kernel
theorem d_Md_isSafe_69 : decode b_Md_isSafe 69 = .ok (.bastore, 1) := by decide +kernel
theorem d_Md_isSafe_70 : decode b_Md_isSafe 70 = .ok (.iconst 1, 1) := by decide +kernel
theorem d_Md_isSafe_71 : decode b_Md_isSafe 71 = .ok (.istore_n 2, 1) := by decide +kernel
theorem d_Md_isSafe_72 : decode b_Md_isSafe 72 = .ok (.iinc 3 1, 3) := by decide +kernel
theorem d_Md_isSafe_75 : decode b_Md_isSafe 75 = .ok (.goto (-34), 3) := by decide +kernel
theorem d_Md_isSafe_78 : decode b_Md_isSafe 78 = .ok (.goto (-45), 3) := by decide +kernel
theorem d_Md_isSafe_81 : decode b_Md_isSafe 81 = .ok (.aload_n 0, 1) := by decide +kernel
theorem d_Md_isSafe_82 : decode b_Md_isSafe 82 = .ok (.getfield 47, 3) := by decide +kernel
theorem d_Md_isSafe_85 : decode b_Md_isSafe 85 = .ok (.iload_n 1, 1) := by decide +kernel
theorem d_Md_isSafe_86 : decode b_Md_isSafe 86 = .ok (.iconst 1, 1) := by decide +kernel
theorem d_Md_isSafe_87 : decode b_Md_isSafe 87 = .ok (.isub, 1) := by decide +kernel
theorem d_Md_isSafe_88 : decode b_Md_isSafe 88 = .ok (.baload, 1) := by decide +kernel
theorem d_Md_isSafe_89 : decode b_Md_isSafe 89 = .ok (.ireturn, 1) := by decide +kernel
theorem d_Md_good_0 : decode b_Md_good 0 = .ok (.iconst 0, 1) := by decide +kernel
theorem d_Md_good_1 : decode b_Md_good 1 = .ok (.istore_n 2, 1) := by decide +kernel
theorem d_Md_good_2 : decode b_Md_good 2 = .ok (.iload_n 2, 1) := by decide +kernel
theorem d_Md_good_3 : decode b_Md_good 3 = .ok (.aload_n 0, 1) := by decide +kernel
theorem d_Md_good_4 : decode b_Md_good 4 = .ok (.getfield 63, 3) := by decide +kernel
theorem d_Md_good_7 : decode b_Md_good 7 = .ok (.if_icmp .ge 31, 3) := by decide +kernel
theorem d_Md_good_10 : decode b_Md_good 10 = .ok (.aload_n 0, 1) := by decide +kernel
theorem d_Md_good_11 : decode b_Md_good 11 = .ok (.iload_n 1, 1) := by decide +kernel
theorem d_Md_good_12 : decode b_Md_good 12 = .ok (.iload_n 2, 1) := by decide +kernel
theorem d_Md_good_13 : decode b_Md_good 13 = .ok (.invokevirtual 91, 3) := by decide +kernel
theorem d_Md_good_16 : decode b_Md_good 16 = .ok (.istore_n 3, 1) := by decide +kernel
theorem d_Md_good_17 : decode b_Md_good 17 = .ok (.iload_n 3, 1) := by decide +kernel
theorem d_Md_good_18 : decode b_Md_good 18 = .ok (.ifCond .lt 14, 3) := by decide +kernel
theorem d_Md_good_21 : decode b_Md_good 21 = .ok (.aload_n 0, 1) := by decide +kernel
theorem d_Md_good_22 : decode b_Md_good 22 = .ok (.getfield 47, 3) := by decide +kernel
theorem d_Md_good_25 : decode b_Md_good 25 = .ok (.iload_n 3, 1) := by decide +kernel
theorem d_Md_good_26 : decode b_Md_good 26 = .ok (.baload, 1) := by decide +kernel
theorem d_Md_good_27 : decode b_Md_good 27 = .ok (.ifCond .eq 5, 3) := by decide +kernel
theorem d_Md_good_30 : decode b_Md_good 30 = .ok (.iload_n 2, 1) := by decide +kernel
theorem d_Md_good_31 : decode b_Md_good 31 = .ok (.ireturn, 1) := by decide +kernel
theorem d_Md_good_32 : decode b_Md_good 32 = .ok (.iinc 2 1, 3) := by decide +kernel
theorem d_Md_good_35 : decode b_Md_good 35 = .ok (.goto (-33), 3) := by decide +kernel
theorem d_Md_good_38 : decode b_Md_good 38 = .ok (.iconst (-1), 1) := by decide +kernel
theorem d_Md_good_39 : decode b_Md_good 39 = .ok (.ireturn, 1) := by decide +kernel
theorem d_Md_after_0 : decode b_Md_after 0 = .ok (.aload_n 0, 1) := by decide +kernel
theorem d_Md_after_1 : decode b_Md_after 1 = .ok (.iload_n 1, 1) := by decide +kernel
theorem d_Md_after_2 : decode b_Md_after 2 = .ok (.invokevirtual 88, 3) := by decide +kernel
theorem d_Md_after_5 : decode b_Md_after 5 = .ok (.iconst 0, 1) := by decide +kernel
theorem d_Md_after_6 : decode b_Md_after 6 = .ok (.istore_n 3, 1) := by decide +kernel
theorem d_Md_after_7 : decode b_Md_after 7 = .ok (.iconst 1, 1) := by decide +kernel
theorem d_Md_after_8 : decode b_Md_after 8 = .ok (.istore 4, 2) := by decide +kernel
theorem d_Md_after_10 : decode b_Md_after 10 = .ok (.iconst 0, 1) := by decide +kernel
theorem d_Md_after_11 : decode b_Md_after 11 = .ok (.istore 5, 2) := by decide +kernel
theorem d_Md_after_13 : decode b_Md_after 13 = .ok (.iload 5, 2) := by decide +kernel
theorem d_Md_after_15 : decode b_Md_after 15 = .ok (.aload_n 0, 1) := by decide +kernel
theorem d_Md_after_16 : decode b_Md_after 16 = .ok (.getfield 63, 3) := by decide +kernel
theorem d_Md_after_19 : decode b_Md_after 19 = .ok (.if_icmp .ge 65, 3) := by decide +kernel
theorem d_Md_after_22 : decode b_Md_after 22 = .ok (.iload 5, 2) := by decide +kernel
theorem d_Md_after_24 : decode b_Md_after 24 = .ok (.iload_n 2, 1) := by decide +kernel
theorem d_Md_after_25 : decode b_Md_after 25 = .ok (.if_icmp .ne 13, 3) := by decide +kernel
theorem d_Md_after_28 : decode b_Md_after 28 = .ok (.aload_n 0, 1) := by decide +kernel
theorem d_Md_after_29 : decode b_Md_after 29 = .ok (.getfield 44, 3) := by decide +kernel
theorem d_Md_after_32 : decode b_Md_after 32 = .ok (.iload 5, 2) := by decide +kernel
theorem d_Md_after_34 : decode b_Md_after 34 = .ok (.iaload, 1) := by decide +kernel
theorem d_Md_after_35 : decode b_Md_after 35 = .ok (.goto 12, 3) := by decide +kernel
theorem d_Md_after_38 : decode b_Md_after 38 = .ok (.aload_n 0, 1) := by decide +kernel
theorem d_Md_after_39 : decode b_Md_after 39 = .ok (.getfield 51, 3) := by decide +kernel
theorem d_Md_after_42 : decode b_Md_after 42 = .ok (.iload 5, 2) := by decide +kernel
theorem d_Md_after_44 : decode b_Md_after 44 = .ok (.iaload, 1) := by decide +kernel
theorem d_Md_after_45 : decode b_Md_after 45 = .ok (.iconst 1, 1) := by decide +kernel
theorem d_Md_after_46 : decode b_Md_after 46 = .ok (.isub, 1) := by decide +kernel
theorem d_Md_after_47 : decode b_Md_after 47 = .ok (.istore 6, 2) := by decide +kernel
theorem d_Md_after_49 : decode b_Md_after 49 = .ok (.iload 6, 2) := by decide +kernel
theorem d_Md_after_51 : decode b_Md_after 51 = .ok (.ifCond .ne 5, 3) := by decide +kernel
theorem d_Md_after_54 : decode b_Md_after 54 = .ok (.iconst (-1), 1) := by decide +kernel
theorem d_Md_after_55 : decode b_Md_after 55 = .ok (.ireturn, 1) := by decide +kernel
theorem d_Md_after_56 : decode b_Md_after 56 = .ok (.iload_n 3, 1) := by decide +kernel
theorem d_Md_after_57 : decode b_Md_after 57 = .ok (.iload 6, 2) := by decide +kernel
theorem d_Md_after_59 : decode b_Md_after 59 = .ok (.iconst 1, 1) := by decide +kernel
theorem d_Md_after_60 : decode b_Md_after 60 = .ok (.isub, 1) := by decide +kernel
theorem d_Md_after_61 : decode b_Md_after 61 = .ok (.iload 4, 2) := by decide +kernel
theorem d_Md_after_63 : decode b_Md_after 63 = .ok (.imul, 1) := by decide +kernel
theorem d_Md_after_64 : decode b_Md_after 64 = .ok (.iadd, 1) := by decide +kernel
theorem d_Md_after_65 : decode b_Md_after 65 = .ok (.istore_n 3, 1) := by decide +kernel
theorem d_Md_after_66 : decode b_Md_after 66 = .ok (.iload 4, 2) := by decide +kernel
theorem d_Md_after_68 : decode b_Md_after 68 = .ok (.aload_n 0, 1) := by decide +kernel
theorem d_Md_after_69 : decode b_Md_after 69 = .ok (.getfield 44, 3) := by decide +kernel
theorem d_Md_after_72 : decode b_Md_after 72 = .ok (.iload 5, 2) := by decide +kernel
theorem d_Md_after_74 : decode b_Md_after 74 = .ok (.iaload, 1) := by decide +kernel
theorem d_Md_after_75 : decode b_Md_after 75 = .ok (.imul, 1) := by decide +kernel
theorem d_Md_after_76 : decode b_Md_after 76 = .ok (.istore 4, 2) := by decide +kernel
theorem d_Md_after_78 : decode b_Md_after 78 = .ok (.iinc 5 1, 3) := by decide +kernel
theorem d_Md_after_81 : decode b_Md_after 81 = .ok (.goto (-68), 3) := by decide +kernel
theorem d_Md_after_84 : decode b_Md_after 84 = .ok (.iload_n 3, 1) := by decide +kernel
theorem d_Md_after_85 : decode b_Md_after 85 = .ok (.ireturn, 1) := by decide +kernel
theorem d_Md_open_0 : decode b_Md_open 0 = .ok (.iload_n 1, 1) := by decide +kernel
theorem d_Md_open_1 : decode b_Md_open 1 = .ok (.istore_n 2, 1) := by decide +kernel
theorem d_Md_open_2 : decode b_Md_open 2 = .ok (.iconst 0, 1) := by decide +kernel
theorem d_Md_open_3 : decode b_Md_open 3 = .ok (.istore_n 3, 1) := by decide +kernel
theorem d_Md_open_4 : decode b_Md_open 4 = .ok (.iload_n 3, 1) := by decide +kernel
theorem d_Md_open_5 : decode b_Md_open 5 = .ok (.aload_n 0, 1) := by decide +kernel
theorem d_Md_open_6 : decode b_Md_open 6 = .ok (.getfield 63, 3) := by decide +kernel
theorem d_Md_open_9 : decode b_Md_open 9 = .ok (.if_icmp .ge 34, 3) := by decide +kernel
theorem d_Md_open_12 : decode b_Md_open 12 = .ok (.aload_n 0, 1) := by decide +kernel
theorem d_Md_open_13 : decode b_Md_open 13 = .ok (.getfield 51, 3) := by decide +kernel
theorem d_Md_open_16 : decode b_Md_open 16 = .ok (.iload_n 3, 1) := by decide +kernel
theorem d_Md_open_17 : decode b_Md_open 17 = .ok (.iload_n 2, 1) := by decide +kernel
theorem d_Md_open_18 : decode b_Md_open 18 = .ok (.aload_n 0, 1) := by decide +kernel
theorem d_Md_open_19 : decode b_Md_open 19 = .ok (.getfield 44, 3) := by decide +kernel
theorem d_Md_open_22 : decode b_Md_open 22 = .ok (.iload_n 3, 1) := by decide +kernel
theorem d_Md_open_23 : decode b_Md_open 23 = .ok (.iaload, 1) := by decide +kernel
theorem d_Md_open_24 : decode b_Md_open 24 = .ok (.irem, 1) := by decide +kernel
theorem d_Md_open_25 : decode b_Md_open 25 = .ok (.iconst 1, 1) := by decide +kernel
theorem d_Md_open_26 : decode b_Md_open 26 = .ok (.iadd, 1) := by decide +kernel
theorem d_Md_open_27 : decode b_Md_open 27 = .ok (.iastore, 1) := by decide +kernel
theorem d_Md_open_28 : decode b_Md_open 28 = .ok (.iload_n 2, 1) := by decide +kernel
theorem d_Md_open_29 : decode b_Md_open 29 = .ok (.aload_n 0, 1) := by decide +kernel
theorem d_Md_open_30 : decode b_Md_open 30 = .ok (.getfield 44, 3) := by decide +kernel
theorem d_Md_open_33 : decode b_Md_open 33 = .ok (.iload_n 3, 1) := by decide +kernel
theorem d_Md_open_34 : decode b_Md_open 34 = .ok (.iaload, 1) := by decide +kernel
theorem d_Md_open_35 : decode b_Md_open 35 = .ok (.idiv, 1) := by decide +kernel
theorem d_Md_open_36 : decode b_Md_open 36 = .ok (.istore_n 2, 1) := by decide +kernel
theorem d_Md_open_37 : decode b_Md_open 37 = .ok (.iinc 3 1, 3) := by decide +kernel
theorem d_Md_open_40 : decode b_Md_open 40 = .ok (.goto (-36), 3) := by decide +kernel
theorem d_Md_open_43 : decode b_Md_open 43 = .ok (.return_, 1) := by decide +kernel
theorem d_Md_drop_0 : decode b_Md_drop 0 = .ok (.aload_n 0, 1) := by decide +kernel
theorem d_Md_drop_1 : decode b_Md_drop 1 = .ok (.aload_n 0, 1) := by decide +kernel
theorem d_Md_drop_2 : decode b_Md_drop 2 = .ok (.iload_n 1, 1) := by decide +kernel
theorem d_Md_drop_3 : decode b_Md_drop 3 = .ok (.invokevirtual 115, 3) := by decide +kernel
theorem d_Md_drop_6 : decode b_Md_drop 6 = .ok (.ifCond .ge 7, 3) := by decide +kernel
theorem d_Md_drop_9 : decode b_Md_drop 9 = .ok (.iconst 1, 1) := by decide +kernel
theorem d_Md_drop_10 : decode b_Md_drop 10 = .ok (.goto 4, 3) := by decide +kernel
theorem d_Md_drop_13 : decode b_Md_drop 13 = .ok (.iconst 0, 1) := by decide +kernel
theorem d_Md_drop_14 : decode b_Md_drop 14 = .ok (.aload_n 0, 1) := by decide +kernel
theorem d_Md_drop_15 : decode b_Md_drop 15 = .ok (.getfield 29, 3) := by decide +kernel
theorem d_Md_drop_18 : decode b_Md_drop 18 = .ok (.ifCond .le 7, 3) := by decide +kernel
theorem d_Md_drop_21 : decode b_Md_drop 21 = .ok (.iconst 1, 1) := by decide +kernel
theorem d_Md_drop_22 : decode b_Md_drop 22 = .ok (.goto 4, 3) := by decide +kernel
theorem d_Md_drop_25 : decode b_Md_drop 25 = .ok (.iconst 0, 1) := by decide +kernel
theorem d_Md_drop_26 : decode b_Md_drop 26 = .ok (.iconst 0, 1) := by decide +kernel
theorem d_Md_drop_27 : decode b_Md_drop 27 = .ok (.invokevirtual 118, 3) := by decide +kernel
theorem d_Md_drop_30 : decode b_Md_drop 30 = .ok (.ifCond .eq 5, 3) := by decide +kernel
theorem d_Md_drop_33 : decode b_Md_drop 33 = .ok (.iconst 0, 1) := by decide +kernel
theorem d_Md_drop_34 : decode b_Md_drop 34 = .ok (.ireturn, 1) := by decide +kernel
theorem d_Md_drop_35 : decode b_Md_drop 35 = .ok (.aload_n 0, 1) := by decide +kernel
theorem d_Md_drop_36 : decode b_Md_drop 36 = .ok (.iload_n 1, 1) := by decide +kernel
theorem d_Md_drop_37 : decode b_Md_drop 37 = .ok (.invokevirtual 122, 3) := by decide +kernel
theorem d_Md_drop_40 : decode b_Md_drop 40 = .ok (.aload_n 0, 1) := by decide +kernel
theorem d_Md_drop_41 : decode b_Md_drop 41 = .ok (.aload_n 0, 1) := by decide +kernel
theorem d_Md_drop_42 : decode b_Md_drop 42 = .ok (.invokevirtual 125, 3) := by decide +kernel
theorem d_Md_drop_45 : decode b_Md_drop 45 = .ok (.putfield 29, 3) := by decide +kernel
theorem d_Md_drop_48 : decode b_Md_drop 48 = .ok (.aload_n 0, 1) := by decide +kernel
theorem d_Md_drop_49 : decode b_Md_drop 49 = .ok (.getfield 29, 3) := by decide +kernel
theorem d_Md_drop_52 : decode b_Md_drop 52 = .ok (.ireturn, 1) := by decide +kernel
theorem d_Md_slot_0 : decode b_Md_slot 0 = .ok (.aload_n 0, 1) := by decide +kernel
theorem d_Md_slot_1 : decode b_Md_slot 1 = .ok (.iconst 0, 1) := by decide +kernel
theorem d_Md_slot_2 : decode b_Md_slot 2 = .ok (.putfield 57, 3) := by decide +kernel
theorem d_Md_slot_5 : decode b_Md_slot 5 = .ok (.aload_n 0, 1) := by decide +kernel
theorem d_Md_slot_6 : decode b_Md_slot 6 = .ok (.getfield 29, 3) := by decide +kernel
theorem d_Md_slot_9 : decode b_Md_slot 9 = .ok (.ifCond .le 7, 3) := by decide +kernel
theorem d_Md_slot_12 : decode b_Md_slot 12 = .ok (.aload_n 0, 1) := by decide +kernel
theorem d_Md_slot_13 : decode b_Md_slot 13 = .ok (.invokevirtual 146, 3) := by decide +kernel
theorem d_Md_slot_16 : decode b_Md_slot 16 = .ok (.aload_n 0, 1) := by decide +kernel
theorem d_Md_slot_17 : decode b_Md_slot 17 = .ok (.getfield 26, 3) := by decide +kernel
theorem d_Md_slot_20 : decode b_Md_slot 20 = .ok (.aload_n 0, 1) := by decide +kernel
theorem d_Md_slot_21 : decode b_Md_slot 21 = .ok (.getfield 131, 3) := by decide +kernel
theorem d_Md_slot_24 : decode b_Md_slot 24 = .ok (.iaload, 1) := by decide +kernel
theorem d_Md_slot_25 : decode b_Md_slot 25 = .ok (.istore_n 1, 1) := by decide +kernel
theorem d_Md_slot_26 : decode b_Md_slot 26 = .ok (.iload_n 1, 1) := by decide +kernel
theorem d_Md_slot_27 : decode b_Md_slot 27 = .ok (.ifCond .ne 13, 3) := by decide +kernel
theorem d_Md_slot_30 : decode b_Md_slot 30 = .ok (.aload_n 0, 1) := by decide +kernel
theorem d_Md_slot_31 : decode b_Md_slot 31 = .ok (.getfield 128, 3) := by decide +kernel
theorem d_Md_slot_34 : decode b_Md_slot 34 = .ok (.istore_n 1, 1) := by decide +kernel
theorem d_Md_slot_35 : decode b_Md_slot 35 = .ok (.aload_n 0, 1) := by decide +kernel
theorem d_Md_slot_36 : decode b_Md_slot 36 = .ok (.iconst 0, 1) := by decide +kernel
theorem d_Md_slot_37 : decode b_Md_slot 37 = .ok (.putfield 128, 3) := by decide +kernel
theorem d_Md_slot_40 : decode b_Md_slot 40 = .ok (.aload_n 0, 1) := by decide +kernel
theorem d_Md_slot_41 : decode b_Md_slot 41 = .ok (.aload_n 0, 1) := by decide +kernel
theorem d_Md_slot_42 : decode b_Md_slot 42 = .ok (.getfield 131, 3) := by decide +kernel
theorem d_Md_slot_45 : decode b_Md_slot 45 = .ok (.iconst 1, 1) := by decide +kernel
theorem d_Md_slot_46 : decode b_Md_slot 46 = .ok (.iadd, 1) := by decide +kernel
theorem d_Md_slot_47 : decode b_Md_slot 47 = .ok (.aload_n 0, 1) := by decide +kernel
theorem d_Md_slot_48 : decode b_Md_slot 48 = .ok (.getfield 22, 3) := by decide +kernel
theorem d_Md_slot_51 : decode b_Md_slot 51 = .ok (.irem, 1) := by decide +kernel
theorem d_Md_slot_52 : decode b_Md_slot 52 = .ok (.putfield 131, 3) := by decide +kernel
theorem d_Md_slot_55 : decode b_Md_slot 55 = .ok (.aload_n 0, 1) := by decide +kernel
theorem d_Md_slot_56 : decode b_Md_slot 56 = .ok (.dup, 1) := by decide +kernel
theorem d_Md_slot_57 : decode b_Md_slot 57 = .ok (.getfield 149, 3) := by decide +kernel
theorem d_Md_slot_60 : decode b_Md_slot 60 = .ok (.iconst 1, 1) := by decide +kernel
theorem d_Md_slot_61 : decode b_Md_slot 61 = .ok (.iadd, 1) := by decide +kernel
theorem d_Md_slot_62 : decode b_Md_slot 62 = .ok (.putfield 149, 3) := by decide +kernel
theorem d_Md_slot_65 : decode b_Md_slot 65 = .ok (.iconst 0, 1) := by decide +kernel
theorem d_Md_slot_66 : decode b_Md_slot 66 = .ok (.istore_n 2, 1) := by decide +kernel
theorem d_Md_slot_67 : decode b_Md_slot 67 = .ok (.iload_n 2, 1) := by decide +kernel
theorem d_Md_slot_68 : decode b_Md_slot 68 = .ok (.aload_n 0, 1) := by decide +kernel
theorem d_Md_slot_69 : decode b_Md_slot 69 = .ok (.getfield 60, 3) := by decide +kernel
theorem d_Md_slot_72 : decode b_Md_slot 72 = .ok (.if_icmp .ge 73, 3) := by decide +kernel
theorem d_Md_slot_75 : decode b_Md_slot 75 = .ok (.aload_n 0, 1) := by decide +kernel
theorem d_Md_slot_76 : decode b_Md_slot 76 = .ok (.getfield 16, 3) := by decide +kernel
theorem d_Md_slot_79 : decode b_Md_slot 79 = .ok (.iload_n 2, 1) := by decide +kernel
theorem d_Md_slot_80 : decode b_Md_slot 80 = .ok (.aload_n 0, 1) := by decide +kernel
theorem d_Md_slot_81 : decode b_Md_slot 81 = .ok (.getfield 7, 3) := by decide +kernel
theorem d_Md_slot_84 : decode b_Md_slot 84 = .ok (.iload_n 2, 1) := by decide +kernel
theorem d_Md_slot_85 : decode b_Md_slot 85 = .ok (.iaload, 1) := by decide +kernel
theorem d_Md_slot_86 : decode b_Md_slot 86 = .ok (.iload_n 1, 1) := by decide +kernel
end
section
theorem d_Md_slot_87 : decode b_Md_slot 87 = .ok (.if_icmp .ne 7, 3) := by decide +kernel
theorem d_Md_slot_90 : decode b_Md_slot 90 = .ok (.iconst 0, 1) := by decide +kernel
theorem d_Md_slot_91 : decode b_Md_slot 91 = .ok (.goto 11, 3) := by decide +kernel
theorem d_Md_slot_94 : decode b_Md_slot 94 = .ok (.aload_n 0, 1) := by decide +kernel
theorem d_Md_slot_95 : decode b_Md_slot 95 = .ok (.getfield 16, 3) := by decide +kernel
theorem d_Md_slot_98 : decode b_Md_slot 98 = .ok (.iload_n 2, 1) := by decide +kernel
theorem d_Md_slot_99 : decode b_Md_slot 99 = .ok (.iaload, 1) := by decide +kernel
theorem d_Md_slot_100 : decode b_Md_slot 100 = .ok (.iconst 1, 1) := by decide +kernel
theorem d_Md_slot_101 : decode b_Md_slot 101 = .ok (.iadd, 1) := by decide +kernel
theorem d_Md_slot_102 : decode b_Md_slot 102 = .ok (.iastore, 1) := by decide +kernel
theorem d_Md_slot_103 : decode b_Md_slot 103 = .ok (.aload_n 0, 1) := by decide +kernel
theorem d_Md_slot_104 : decode b_Md_slot 104 = .ok (.getfield 19, 3) := by decide +kernel
theorem d_Md_slot_107 : decode b_Md_slot 107 = .ok (.iload_n 2, 1) := by decide +kernel
theorem d_Md_slot_108 : decode b_Md_slot 108 = .ok (.aload_n 0, 1) := by decide +kernel
theorem d_Md_slot_109 : decode b_Md_slot 109 = .ok (.getfield 16, 3) := by decide +kernel
theorem d_Md_slot_112 : decode b_Md_slot 112 = .ok (.iload_n 2, 1) := by decide +kernel
theorem d_Md_slot_113 : decode b_Md_slot 113 = .ok (.iaload, 1) := by decide +kernel
theorem d_Md_slot_114 : decode b_Md_slot 114 = .ok (.aload_n 0, 1) := by decide +kernel
theorem d_Md_slot_115 : decode b_Md_slot 115 = .ok (.getfield 19, 3) := by decide +kernel
theorem d_Md_slot_118 : decode b_Md_slot 118 = .ok (.iload_n 2, 1) := by decide +kernel
theorem d_Md_slot_119 : decode b_Md_slot 119 = .ok (.iaload, 1) := by decide +kernel
theorem d_Md_slot_120 : decode b_Md_slot 120 = .ok (.if_icmp .le 12, 3) := by decide +kernel
theorem d_Md_slot_123 : decode b_Md_slot 123 = .ok (.aload_n 0, 1) := by decide +kernel
theorem d_Md_slot_124 : decode b_Md_slot 124 = .ok (.getfield 16, 3) := by decide +kernel
theorem d_Md_slot_127 : decode b_Md_slot 127 = .ok (.iload_n 2, 1) := by decide +kernel
theorem d_Md_slot_128 : decode b_Md_slot 128 = .ok (.iaload, 1) := by decide +kernel
theorem d_Md_slot_129 : decode b_Md_slot 129 = .ok (.goto 9, 3) := by decide +kernel
theorem d_Md_slot_132 : decode b_Md_slot 132 = .ok (.aload_n 0, 1) := by decide +kernel
theorem d_Md_slot_133 : decode b_Md_slot 133 = .ok (.getfield 19, 3) := by decide +kernel
theorem d_Md_slot_136 : decode b_Md_slot 136 = .ok (.iload_n 2, 1) := by decide +kernel
theorem d_Md_slot_137 : decode b_Md_slot 137 = .ok (.iaload, 1) := by decide +kernel
theorem d_Md_slot_138 : decode b_Md_slot 138 = .ok (.iastore, 1) := by decide +kernel
theorem d_Md_slot_139 : decode b_Md_slot 139 = .ok (.iinc 2 1, 3) := by decide +kernel
theorem d_Md_slot_142 : decode b_Md_slot 142 = .ok (.goto (-75), 3) := by decide +kernel
theorem d_Md_slot_145 : decode b_Md_slot 145 = .ok (.iload_n 1, 1) := by decide +kernel
theorem d_Md_slot_146 : decode b_Md_slot 146 = .ok (.ireturn, 1) := by decide +kernel
theorem d_Md_lookForSeam_0 : decode b_Md_lookForSeam 0 = .ok (.iconst 0, 1) := by decide +kernel
theorem d_Md_lookForSeam_1 : decode b_Md_lookForSeam 1 = .ok (.istore_n 1, 1) := by decide +kernel
theorem d_Md_lookForSeam_2 : decode b_Md_lookForSeam 2 = .ok (.iload_n 1, 1) := by decide +kernel
theorem d_Md_lookForSeam_3 : decode b_Md_lookForSeam 3 = .ok (.aload_n 0, 1) := by decide +kernel
theorem d_Md_lookForSeam_4 : decode b_Md_lookForSeam 4 = .ok (.getfield 77, 3) := by decide +kernel
theorem d_Md_lookForSeam_7 : decode b_Md_lookForSeam 7 = .ok (.if_icmp .ge 17, 3) := by decide +kernel
theorem d_Md_lookForSeam_10 : decode b_Md_lookForSeam 10 = .ok (.aload_n 0, 1) := by decide +kernel
theorem d_Md_lookForSeam_11 : decode b_Md_lookForSeam 11 = .ok (.iload_n 1, 1) := by decide +kernel
theorem d_Md_lookForSeam_12 : decode b_Md_lookForSeam 12 = .ok (.invokevirtual 137, 3) := by decide +kernel
theorem d_Md_lookForSeam_15 : decode b_Md_lookForSeam 15 = .ok (.ifCond .ne 9, 3) := by decide +kernel
theorem d_Md_lookForSeam_18 : decode b_Md_lookForSeam 18 = .ok (.iinc 1 1, 3) := by decide +kernel
theorem d_Md_lookForSeam_21 : decode b_Md_lookForSeam 21 = .ok (.goto (-19), 3) := by decide +kernel
theorem d_Md_lookForSeam_24 : decode b_Md_lookForSeam 24 = .ok (.iload_n 1, 1) := by decide +kernel
theorem d_Md_lookForSeam_25 : decode b_Md_lookForSeam 25 = .ok (.aload_n 0, 1) := by decide +kernel
theorem d_Md_lookForSeam_26 : decode b_Md_lookForSeam 26 = .ok (.getfield 77, 3) := by decide +kernel
theorem d_Md_lookForSeam_29 : decode b_Md_lookForSeam 29 = .ok (.if_icmp .ge 11, 3) := by decide +kernel
theorem d_Md_lookForSeam_32 : decode b_Md_lookForSeam 32 = .ok (.aload_n 0, 1) := by decide +kernel
theorem d_Md_lookForSeam_33 : decode b_Md_lookForSeam 33 = .ok (.iload_n 1, 1) := by decide +kernel
theorem d_Md_lookForSeam_34 : decode b_Md_lookForSeam 34 = .ok (.invokevirtual 140, 3) := by decide +kernel
theorem d_Md_lookForSeam_37 : decode b_Md_lookForSeam 37 = .ok (.goto 13, 3) := by decide +kernel
theorem d_Md_lookForSeam_40 : decode b_Md_lookForSeam 40 = .ok (.aload_n 0, 1) := by decide +kernel
theorem d_Md_lookForSeam_41 : decode b_Md_lookForSeam 41 = .ok (.dup, 1) := by decide +kernel
theorem d_Md_lookForSeam_42 : decode b_Md_lookForSeam 42 = .ok (.getfield 143, 3) := by decide +kernel
theorem d_Md_lookForSeam_45 : decode b_Md_lookForSeam 45 = .ok (.iconst 1, 1) := by decide +kernel
theorem d_Md_lookForSeam_46 : decode b_Md_lookForSeam 46 = .ok (.iadd, 1) := by decide +kernel
theorem d_Md_lookForSeam_47 : decode b_Md_lookForSeam 47 = .ok (.putfield 143, 3) := by decide +kernel
theorem d_Md_lookForSeam_50 : decode b_Md_lookForSeam 50 = .ok (.return_, 1) := by decide +kernel
theorem d_Md_isSeam_0 : decode b_Md_isSeam 0 = .ok (.iconst 1, 1) := by decide +kernel
theorem d_Md_isSeam_1 : decode b_Md_isSeam 1 = .ok (.istore_n 2, 1) := by decide +kernel
theorem d_Md_isSeam_2 : decode b_Md_isSeam 2 = .ok (.iconst 0, 1) := by decide +kernel
theorem d_Md_isSeam_3 : decode b_Md_isSeam 3 = .ok (.istore_n 3, 1) := by decide +kernel
theorem d_Md_isSeam_4 : decode b_Md_isSeam 4 = .ok (.iload_n 3, 1) := by decide +kernel
theorem d_Md_isSeam_5 : decode b_Md_isSeam 5 = .ok (.aload_n 0, 1) := by decide +kernel
theorem d_Md_isSeam_6 : decode b_Md_isSeam 6 = .ok (.getfield 66, 3) := by decide +kernel
theorem d_Md_isSeam_9 : decode b_Md_isSeam 9 = .ok (.if_icmp .ge 91, 3) := by decide +kernel
theorem d_Md_isSeam_12 : decode b_Md_isSeam 12 = .ok (.iconst 0, 1) := by decide +kernel
theorem d_Md_isSeam_13 : decode b_Md_isSeam 13 = .ok (.istore 4, 2) := by decide +kernel
theorem d_Md_isSeam_15 : decode b_Md_isSeam 15 = .ok (.aload_n 0, 1) := by decide +kernel
theorem d_Md_isSeam_16 : decode b_Md_isSeam 16 = .ok (.getfield 38, 3) := by decide +kernel
theorem d_Md_isSeam_19 : decode b_Md_isSeam 19 = .ok (.iload_n 1, 1) := by decide +kernel
theorem d_Md_isSeam_20 : decode b_Md_isSeam 20 = .ok (.iload 4, 2) := by decide +kernel
theorem d_Md_isSeam_22 : decode b_Md_isSeam 22 = .ok (.iadd, 1) := by decide +kernel
theorem d_Md_isSeam_23 : decode b_Md_isSeam 23 = .ok (.aload_n 0, 1) := by decide +kernel
theorem d_Md_isSeam_24 : decode b_Md_isSeam 24 = .ok (.getfield 77, 3) := by decide +kernel
theorem d_Md_isSeam_27 : decode b_Md_isSeam 27 = .ok (.irem, 1) := by decide +kernel
theorem d_Md_isSeam_28 : decode b_Md_isSeam 28 = .ok (.iaload, 1) := by decide +kernel
theorem d_Md_isSeam_29 : decode b_Md_isSeam 29 = .ok (.aload_n 0, 1) := by decide +kernel
theorem d_Md_isSeam_30 : decode b_Md_isSeam 30 = .ok (.getfield 32, 3) := by decide +kernel
theorem d_Md_isSeam_33 : decode b_Md_isSeam 33 = .ok (.iload_n 3, 1) := by decide +kernel
theorem d_Md_isSeam_34 : decode b_Md_isSeam 34 = .ok (.iaload, 1) := by decide +kernel
theorem d_Md_isSeam_35 : decode b_Md_isSeam 35 = .ok (.if_icmp .eq 9, 3) := by decide +kernel
theorem d_Md_isSeam_38 : decode b_Md_isSeam 38 = .ok (.iinc 4 1, 3) := by decide +kernel
theorem d_Md_isSeam_41 : decode b_Md_isSeam 41 = .ok (.goto (-26), 3) := by decide +kernel
theorem d_Md_isSeam_44 : decode b_Md_isSeam 44 = .ok (.aload_n 0, 1) := by decide +kernel
theorem d_Md_isSeam_45 : decode b_Md_isSeam 45 = .ok (.aload_n 0, 1) := by decide +kernel
theorem d_Md_isSeam_46 : decode b_Md_isSeam 46 = .ok (.getfield 32, 3) := by decide +kernel
theorem d_Md_isSeam_49 : decode b_Md_isSeam 49 = .ok (.iload_n 3, 1) := by decide +kernel
theorem d_Md_isSeam_50 : decode b_Md_isSeam 50 = .ok (.iaload, 1) := by decide +kernel
theorem d_Md_isSeam_51 : decode b_Md_isSeam 51 = .ok (.invokevirtual 115, 3) := by decide +kernel
theorem d_Md_isSeam_54 : decode b_Md_isSeam 54 = .ok (.istore 5, 2) := by decide +kernel
theorem d_Md_isSeam_56 : decode b_Md_isSeam 56 = .ok (.iload_n 2, 1) := by decide +kernel
theorem d_Md_isSeam_57 : decode b_Md_isSeam 57 = .ok (.ifCond .eq 35, 3) := by decide +kernel
theorem d_Md_isSeam_60 : decode b_Md_isSeam 60 = .ok (.iload 5, 2) := by decide +kernel
theorem d_Md_isSeam_62 : decode b_Md_isSeam 62 = .ok (.ifCond .ge 7, 3) := by decide +kernel
theorem d_Md_isSeam_65 : decode b_Md_isSeam 65 = .ok (.iconst 0, 1) := by decide +kernel
theorem d_Md_isSeam_66 : decode b_Md_isSeam 66 = .ok (.goto 10, 3) := by decide +kernel
theorem d_Md_isSeam_69 : decode b_Md_isSeam 69 = .ok (.aload_n 0, 1) := by decide +kernel
theorem d_Md_isSeam_70 : decode b_Md_isSeam 70 = .ok (.getfield 16, 3) := by decide +kernel
theorem d_Md_isSeam_73 : decode b_Md_isSeam 73 = .ok (.iload 5, 2) := by decide +kernel
theorem d_Md_isSeam_75 : decode b_Md_isSeam 75 = .ok (.iaload, 1) := by decide +kernel
theorem d_Md_isSeam_76 : decode b_Md_isSeam 76 = .ok (.iload 4, 2) := by decide +kernel
theorem d_Md_isSeam_78 : decode b_Md_isSeam 78 = .ok (.iadd, 1) := by decide +kernel
theorem d_Md_isSeam_79 : decode b_Md_isSeam 79 = .ok (.aload_n 0, 1) := by decide +kernel
theorem d_Md_isSeam_80 : decode b_Md_isSeam 80 = .ok (.getfield 35, 3) := by decide +kernel
theorem d_Md_isSeam_83 : decode b_Md_isSeam 83 = .ok (.iload_n 3, 1) := by decide +kernel
theorem d_Md_isSeam_84 : decode b_Md_isSeam 84 = .ok (.iaload, 1) := by decide +kernel
theorem d_Md_isSeam_85 : decode b_Md_isSeam 85 = .ok (.if_icmp .ge 7, 3) := by decide +kernel
theorem d_Md_isSeam_88 : decode b_Md_isSeam 88 = .ok (.iconst 1, 1) := by decide +kernel
theorem d_Md_isSeam_89 : decode b_Md_isSeam 89 = .ok (.goto 4, 3) := by decide +kernel
theorem d_Md_isSeam_92 : decode b_Md_isSeam 92 = .ok (.iconst 0, 1) := by decide +kernel
theorem d_Md_isSeam_93 : decode b_Md_isSeam 93 = .ok (.istore_n 2, 1) := by decide +kernel
theorem d_Md_isSeam_94 : decode b_Md_isSeam 94 = .ok (.iinc 3 1, 3) := by decide +kernel
theorem d_Md_isSeam_97 : decode b_Md_isSeam 97 = .ok (.goto (-93), 3) := by decide +kernel
theorem d_Md_isSeam_100 : decode b_Md_isSeam 100 = .ok (.iload_n 2, 1) := by decide +kernel
theorem d_Md_isSeam_101 : decode b_Md_isSeam 101 = .ok (.ireturn, 1) := by decide +kernel
theorem d_Md_takeOver_0 : decode b_Md_takeOver 0 = .ok (.iconst 0, 1) := by decide +kernel
theorem d_Md_takeOver_1 : decode b_Md_takeOver 1 = .ok (.istore_n 2, 1) := by decide +kernel
theorem d_Md_takeOver_2 : decode b_Md_takeOver 2 = .ok (.iload_n 2, 1) := by decide +kernel
theorem d_Md_takeOver_3 : decode b_Md_takeOver 3 = .ok (.aload_n 0, 1) := by decide +kernel
theorem d_Md_takeOver_4 : decode b_Md_takeOver 4 = .ok (.getfield 66, 3) := by decide +kernel
theorem d_Md_takeOver_7 : decode b_Md_takeOver 7 = .ok (.if_icmp .ge 60, 3) := by decide +kernel
theorem d_Md_takeOver_10 : decode b_Md_takeOver 10 = .ok (.aload_n 0, 1) := by decide +kernel
theorem d_Md_takeOver_11 : decode b_Md_takeOver 11 = .ok (.aload_n 0, 1) := by decide +kernel
theorem d_Md_takeOver_12 : decode b_Md_takeOver 12 = .ok (.getfield 32, 3) := by decide +kernel
theorem d_Md_takeOver_15 : decode b_Md_takeOver 15 = .ok (.iload_n 2, 1) := by decide +kernel
theorem d_Md_takeOver_16 : decode b_Md_takeOver 16 = .ok (.iaload, 1) := by decide +kernel
theorem d_Md_takeOver_17 : decode b_Md_takeOver 17 = .ok (.invokevirtual 115, 3) := by decide +kernel
theorem d_Md_takeOver_20 : decode b_Md_takeOver 20 = .ok (.istore_n 3, 1) := by decide +kernel
theorem d_Md_takeOver_21 : decode b_Md_takeOver 21 = .ok (.aload_n 0, 1) := by decide +kernel
theorem d_Md_takeOver_22 : decode b_Md_takeOver 22 = .ok (.getfield 44, 3) := by decide +kernel
theorem d_Md_takeOver_25 : decode b_Md_takeOver 25 = .ok (.iload_n 2, 1) := by decide +kernel
theorem d_Md_takeOver_26 : decode b_Md_takeOver 26 = .ok (.iload_n 3, 1) := by decide +kernel
theorem d_Md_takeOver_27 : decode b_Md_takeOver 27 = .ok (.ifCond .ge 7, 3) := by decide +kernel
theorem d_Md_takeOver_30 : decode b_Md_takeOver 30 = .ok (.iconst 0, 1) := by decide +kernel
theorem d_Md_takeOver_31 : decode b_Md_takeOver 31 = .ok (.goto 9, 3) := by decide +kernel
theorem d_Md_takeOver_34 : decode b_Md_takeOver 34 = .ok (.aload_n 0, 1) := by decide +kernel
theorem d_Md_takeOver_35 : decode b_Md_takeOver 35 = .ok (.getfield 16, 3) := by decide +kernel
theorem d_Md_takeOver_38 : decode b_Md_takeOver 38 = .ok (.iload_n 3, 1) := by decide +kernel
theorem d_Md_takeOver_39 : decode b_Md_takeOver 39 = .ok (.iaload, 1) := by decide +kernel
theorem d_Md_takeOver_40 : decode b_Md_takeOver 40 = .ok (.iastore, 1) := by decide +kernel
theorem d_Md_takeOver_41 : decode b_Md_takeOver 41 = .ok (.aload_n 0, 1) := by decide +kernel
theorem d_Md_takeOver_42 : decode b_Md_takeOver 42 = .ok (.getfield 41, 3) := by decide +kernel
theorem d_Md_takeOver_45 : decode b_Md_takeOver 45 = .ok (.iload_n 2, 1) := by decide +kernel
theorem d_Md_takeOver_46 : decode b_Md_takeOver 46 = .ok (.iload_n 3, 1) := by decide +kernel
theorem d_Md_takeOver_47 : decode b_Md_takeOver 47 = .ok (.ifCond .ge 7, 3) := by decide +kernel
theorem d_Md_takeOver_50 : decode b_Md_takeOver 50 = .ok (.iconst 0, 1) := by decide +kernel
theorem d_Md_takeOver_51 : decode b_Md_takeOver 51 = .ok (.goto 9, 3) := by decide +kernel
theorem d_Md_takeOver_54 : decode b_Md_takeOver 54 = .ok (.aload_n 0, 1) := by decide +kernel
theorem d_Md_takeOver_55 : decode b_Md_takeOver 55 = .ok (.getfield 19, 3) := by decide +kernel
theorem d_Md_takeOver_58 : decode b_Md_takeOver 58 = .ok (.iload_n 3, 1) := by decide +kernel
theorem d_Md_takeOver_59 : decode b_Md_takeOver 59 = .ok (.iaload, 1) := by decide +kernel
theorem d_Md_takeOver_60 : decode b_Md_takeOver 60 = .ok (.iastore, 1) := by decide +kernel
theorem d_Md_takeOver_61 : decode b_Md_takeOver 61 = .ok (.iinc 2 1, 3) := by decide +kernel
theorem d_Md_takeOver_64 : decode b_Md_takeOver 64 = .ok (.goto (-62), 3) := by decide +kernel
theorem d_Md_takeOver_67 : decode b_Md_takeOver 67 = .ok (.iconst 0, 1) := by decide +kernel
theorem d_Md_takeOver_68 : decode b_Md_takeOver 68 = .ok (.istore_n 2, 1) := by decide +kernel
theorem d_Md_takeOver_69 : decode b_Md_takeOver 69 = .ok (.aload_n 0, 1) := by decide +kernel
theorem d_Md_takeOver_70 : decode b_Md_takeOver 70 = .ok (.aload_n 0, 1) := by decide +kernel
theorem d_Md_takeOver_71 : decode b_Md_takeOver 71 = .ok (.getfield 66, 3) := by decide +kernel
theorem d_Md_takeOver_74 : decode b_Md_takeOver 74 = .ok (.putfield 60, 3) := by decide +kernel
theorem d_Md_takeOver_77 : decode b_Md_takeOver 77 = .ok (.iconst 0, 1) := by decide +kernel
theorem d_Md_takeOver_78 : decode b_Md_takeOver 78 = .ok (.istore_n 3, 1) := by decide +kernel
theorem d_Md_takeOver_79 : decode b_Md_takeOver 79 = .ok (.iload_n 3, 1) := by decide +kernel
theorem d_Md_takeOver_80 : decode b_Md_takeOver 80 = .ok (.aload_n 0, 1) := by decide +kernel
theorem d_Md_takeOver_81 : decode b_Md_takeOver 81 = .ok (.getfield 66, 3) := by decide +kernel
theorem d_Md_takeOver_84 : decode b_Md_takeOver 84 = .ok (.if_icmp .ge 80, 3) := by decide +kernel
theorem d_Md_takeOver_87 : decode b_Md_takeOver 87 = .ok (.aload_n 0, 1) := by decide +kernel
theorem d_Md_takeOver_88 : decode b_Md_takeOver 88 = .ok (.getfield 7, 3) := by decide +kernel
theorem d_Md_takeOver_91 : decode b_Md_takeOver 91 = .ok (.iload_n 3, 1) := by decide +kernel
theorem d_Md_takeOver_92 : decode b_Md_takeOver 92 = .ok (.aload_n 0, 1) := by decide +kernel
theorem d_Md_takeOver_93 : decode b_Md_takeOver 93 = .ok (.getfield 32, 3) := by decide +kernel
theorem d_Md_takeOver_96 : decode b_Md_takeOver 96 = .ok (.iload_n 3, 1) := by decide +kernel
theorem d_Md_takeOver_97 : decode b_Md_takeOver 97 = .ok (.iaload, 1) := by decide +kernel
theorem d_Md_takeOver_98 : decode b_Md_takeOver 98 = .ok (.iastore, 1) := by decide +kernel
theorem d_Md_takeOver_99 : decode b_Md_takeOver 99 = .ok (.aload_n 0, 1) := by decide +kernel
theorem d_Md_takeOver_100 : decode b_Md_takeOver 100 = .ok (.getfield 13, 3) := by decide +kernel
theorem d_Md_takeOver_103 : decode b_Md_takeOver 103 = .ok (.iload_n 3, 1) := by decide +kernel
theorem d_Md_takeOver_104 : decode b_Md_takeOver 104 = .ok (.aload_n 0, 1) := by decide +kernel
theorem d_Md_takeOver_105 : decode b_Md_takeOver 105 = .ok (.getfield 35, 3) := by decide +kernel
theorem d_Md_takeOver_108 : decode b_Md_takeOver 108 = .ok (.iload_n 3, 1) := by decide +kernel
theorem d_Md_takeOver_109 : decode b_Md_takeOver 109 = .ok (.iaload, 1) := by decide +kernel
theorem d_Md_takeOver_110 : decode b_Md_takeOver 110 = .ok (.iastore, 1) := by decide +kernel
theorem d_Md_takeOver_111 : decode b_Md_takeOver 111 = .ok (.aload_n 0, 1) := by decide +kernel
theorem d_Md_takeOver_112 : decode b_Md_takeOver 112 = .ok (.getfield 16, 3) := by decide +kernel
theorem d_Md_takeOver_115 : decode b_Md_takeOver 115 = .ok (.iload_n 3, 1) := by decide +kernel
theorem d_Md_takeOver_116 : decode b_Md_takeOver 116 = .ok (.aload_n 0, 1) := by decide +kernel
theorem d_Md_takeOver_117 : decode b_Md_takeOver 117 = .ok (.getfield 44, 3) := by decide +kernel
theorem d_Md_takeOver_120 : decode b_Md_takeOver 120 = .ok (.iload_n 3, 1) := by decide +kernel
theorem d_Md_takeOver_121 : decode b_Md_takeOver 121 = .ok (.iaload, 1) := by decide +kernel
theorem d_Md_takeOver_122 : decode b_Md_takeOver 122 = .ok (.iastore, 1) := by decide +kernel
theorem d_Md_takeOver_123 : decode b_Md_takeOver 123 = .ok (.aload_n 0, 1) := by decide +kernel
theorem d_Md_takeOver_124 : decode b_Md_takeOver 124 = .ok (.getfield 19, 3) := by decide +kernel
theorem d_Md_takeOver_127 : decode b_Md_takeOver 127 = .ok (.iload_n 3, 1) := by decide +kernel
theorem d_Md_takeOver_128 : decode b_Md_takeOver 128 = .ok (.aload_n 0, 1) := by decide +kernel
theorem d_Md_takeOver_129 : decode b_Md_takeOver 129 = .ok (.getfield 41, 3) := by decide +kernel
theorem d_Md_takeOver_132 : decode b_Md_takeOver 132 = .ok (.iload_n 3, 1) := by decide +kernel
theorem d_Md_takeOver_133 : decode b_Md_takeOver 133 = .ok (.iaload, 1) := by decide +kernel
theorem d_Md_takeOver_134 : decode b_Md_takeOver 134 = .ok (.iastore, 1) := by decide +kernel
theorem d_Md_takeOver_135 : decode b_Md_takeOver 135 = .ok (.iload_n 2, 1) := by decide +kernel
theorem d_Md_takeOver_136 : decode b_Md_takeOver 136 = .ok (.ifCond .ne 16, 3) := by decide +kernel
theorem d_Md_takeOver_139 : decode b_Md_takeOver 139 = .ok (.aload_n 0, 1) := by decide +kernel
theorem d_Md_takeOver_140 : decode b_Md_takeOver 140 = .ok (.getfield 7, 3) := by decide +kernel
theorem d_Md_takeOver_143 : decode b_Md_takeOver 143 = .ok (.iload_n 3, 1) := by decide +kernel
theorem d_Md_takeOver_144 : decode b_Md_takeOver 144 = .ok (.iaload, 1) := by decide +kernel
theorem d_Md_takeOver_145 : decode b_Md_takeOver 145 = .ok (.aload_n 0, 1) := by decide +kernel
theorem d_Md_takeOver_146 : decode b_Md_takeOver 146 = .ok (.getfield 128, 3) := by decide +kernel
theorem d_Md_takeOver_149 : decode b_Md_takeOver 149 = .ok (.if_icmp .ne 7, 3) := by decide +kernel
theorem d_Md_takeOver_152 : decode b_Md_takeOver 152 = .ok (.iconst 1, 1) := by decide +kernel
theorem d_Md_takeOver_153 : decode b_Md_takeOver 153 = .ok (.goto 4, 3) := by decide +kernel
theorem d_Md_takeOver_156 : decode b_Md_takeOver 156 = .ok (.iconst 0, 1) := by decide +kernel
theorem d_Md_takeOver_157 : decode b_Md_takeOver 157 = .ok (.istore_n 2, 1) := by decide +kernel
theorem d_Md_takeOver_158 : decode b_Md_takeOver 158 = .ok (.iinc 3 1, 3) := by decide +kernel
theorem d_Md_takeOver_161 : decode b_Md_takeOver 161 = .ok (.goto (-82), 3) := by decide +kernel
theorem d_Md_takeOver_164 : decode b_Md_takeOver 164 = .ok (.aload_n 0, 1) := by decide +kernel
theorem d_Md_takeOver_165 : decode b_Md_takeOver 165 = .ok (.iload_n 2, 1) := by decide +kernel
theorem d_Md_takeOver_166 : decode b_Md_takeOver 166 = .ok (.ifCond .eq 10, 3) := by decide +kernel
theorem d_Md_takeOver_169 : decode b_Md_takeOver 169 = .ok (.aload_n 0, 1) := by decide +kernel
theorem d_Md_takeOver_170 : decode b_Md_takeOver 170 = .ok (.getfield 128, 3) := by decide +kernel
theorem d_Md_takeOver_173 : decode b_Md_takeOver 173 = .ok (.goto 4, 3) := by decide +kernel
theorem d_Md_takeOver_176 : decode b_Md_takeOver 176 = .ok (.iconst 0, 1) := by decide +kernel
theorem d_Md_takeOver_177 : decode b_Md_takeOver 177 = .ok (.putfield 128, 3) := by decide +kernel
theorem d_Md_takeOver_180 : decode b_Md_takeOver 180 = .ok (.aload_n 0, 1) := by decide +kernel
theorem d_Md_takeOver_181 : decode b_Md_takeOver 181 = .ok (.aload_n 0, 1) := by decide +kernel
theorem d_Md_takeOver_182 : decode b_Md_takeOver 182 = .ok (.getfield 77, 3) := by decide +kernel
theorem d_Md_takeOver_185 : decode b_Md_takeOver 185 = .ok (.putfield 22, 3) := by decide +kernel
theorem d_Md_takeOver_188 : decode b_Md_takeOver 188 = .ok (.iconst 0, 1) := by decide +kernel
theorem d_Md_takeOver_189 : decode b_Md_takeOver 189 = .ok (.istore_n 3, 1) := by decide +kernel
theorem d_Md_takeOver_190 : decode b_Md_takeOver 190 = .ok (.iload_n 3, 1) := by decide +kernel
theorem d_Md_takeOver_191 : decode b_Md_takeOver 191 = .ok (.aload_n 0, 1) := by decide +kernel
theorem d_Md_takeOver_192 : decode b_Md_takeOver 192 = .ok (.getfield 22, 3) := by decide +kernel
theorem d_Md_takeOver_195 : decode b_Md_takeOver 195 = .ok (.if_icmp .ge 21, 3) := by decide +kernel
theorem d_Md_takeOver_198 : decode b_Md_takeOver 198 = .ok (.aload_n 0, 1) := by decide +kernel
theorem d_Md_takeOver_199 : decode b_Md_takeOver 199 = .ok (.getfield 26, 3) := by decide +kernel
theorem d_Md_takeOver_202 : decode b_Md_takeOver 202 = .ok (.iload_n 3, 1) := by decide +kernel
theorem d_Md_takeOver_203 : decode b_Md_takeOver 203 = .ok (.aload_n 0, 1) := by decide +kernel
theorem d_Md_takeOver_204 : decode b_Md_takeOver 204 = .ok (.getfield 38, 3) := by decide +kernel
theorem d_Md_takeOver_207 : decode b_Md_takeOver 207 = .ok (.iload_n 3, 1) := by decide +kernel
theorem d_Md_takeOver_208 : decode b_Md_takeOver 208 = .ok (.iaload, 1) := by decide +kernel
theorem d_Md_takeOver_209 : decode b_Md_takeOver 209 = .ok (.iastore, 1) := by decide +kernel
theorem d_Md_takeOver_210 : decode b_Md_takeOver 210 = .ok (.iinc 3 1, 3) := by decide +kernel
theorem d_Md_takeOver_213 : decode b_Md_takeOver 213 = .ok (.goto (-23), 3) := by decide +kernel
theorem d_Md_takeOver_216 : decode b_Md_takeOver 216 = .ok (.aload_n 0, 1) := by decide +kernel
theorem d_Md_takeOver_217 : decode b_Md_takeOver 217 = .ok (.iload_n 1, 1) := by decide +kernel
theorem d_Md_takeOver_218 : decode b_Md_takeOver 218 = .ok (.putfield 131, 3) := by decide +kernel
theorem d_Md_takeOver_221 : decode b_Md_takeOver 221 = .ok (.aload_n 0, 1) := by decide +kernel
theorem d_Md_takeOver_222 : decode b_Md_takeOver 222 = .ok (.aload_n 0, 1) := by decide +kernel
theorem d_Md_takeOver_223 : decode b_Md_takeOver 223 = .ok (.getfield 29, 3) := by decide +kernel
theorem d_Md_takeOver_226 : decode b_Md_takeOver 226 = .ok (.putfield 134, 3) := by decide +kernel
theorem d_Md_takeOver_229 : decode b_Md_takeOver 229 = .ok (.aload_n 0, 1) := by decide +kernel
theorem d_Md_takeOver_230 : decode b_Md_takeOver 230 = .ok (.iconst (-1), 1) := by decide +kernel
theorem d_Md_takeOver_231 : decode b_Md_takeOver 231 = .ok (.putfield 29, 3) := by decide +kernel
theorem d_Md_takeOver_234 : decode b_Md_takeOver 234 = .ok (.return_, 1) := by decide +kernel
theorem d_Md_wish_0 : decode b_Md_wish 0 = .ok (.aload_n 0, 1) := by decide +kernel
theorem d_Md_wish_1 : decode b_Md_wish 1 = .ok (.aload_n 0, 1) := by decide +kernel
theorem d_Md_wish_2 : decode b_Md_wish 2 = .ok (.iload_n 1, 1) := by decide +kernel
theorem d_Md_wish_3 : decode b_Md_wish 3 = .ok (.invokevirtual 115, 3) := by decide +kernel
theorem d_Md_wish_6 : decode b_Md_wish 6 = .ok (.ifCond .ge 7, 3) := by decide +kernel
theorem d_Md_wish_9 : decode b_Md_wish 9 = .ok (.iconst 1, 1) := by decide +kernel
theorem d_Md_wish_10 : decode b_Md_wish 10 = .ok (.goto 4, 3) := by decide +kernel
theorem d_Md_wish_13 : decode b_Md_wish 13 = .ok (.iconst 0, 1) := by decide +kernel
theorem d_Md_wish_14 : decode b_Md_wish 14 = .ok (.aload_n 0, 1) := by decide +kernel
theorem d_Md_wish_15 : decode b_Md_wish 15 = .ok (.getfield 128, 3) := by decide +kernel
theorem d_Md_wish_18 : decode b_Md_wish 18 = .ok (.ifCond .le 7, 3) := by decide +kernel
theorem d_Md_wish_21 : decode b_Md_wish 21 = .ok (.iconst 1, 1) := by decide +kernel
theorem d_Md_wish_22 : decode b_Md_wish 22 = .ok (.goto 4, 3) := by decide +kernel
theorem d_Md_wish_25 : decode b_Md_wish 25 = .ok (.iconst 0, 1) := by decide +kernel
theorem d_Md_wish_26 : decode b_Md_wish 26 = .ok (.iconst 0, 1) := by decide +kernel
theorem d_Md_wish_27 : decode b_Md_wish 27 = .ok (.invokevirtual 118, 3) := by decide +kernel
theorem d_Md_wish_30 : decode b_Md_wish 30 = .ok (.ifCond .eq 4, 3) := by decide +kernel
theorem d_Md_wish_33 : decode b_Md_wish 33 = .ok (.return_, 1) := by decide +kernel
theorem d_Md_wish_34 : decode b_Md_wish 34 = .ok (.aload_n 0, 1) := by decide +kernel
theorem d_Md_wish_35 : decode b_Md_wish 35 = .ok (.iload_n 1, 1) := by decide +kernel
theorem d_Md_wish_36 : decode b_Md_wish 36 = .ok (.putfield 128, 3) := by decide +kernel
theorem d_Md_wish_39 : decode b_Md_wish 39 = .ok (.return_, 1) := by decide +kernel
theorem d_Md_waited_0 : decode b_Md_waited 0 = .ok (.aload_n 0, 1) := by decide +kernel
theorem d_Md_waited_1 : decode b_Md_waited 1 = .ok (.iload_n 1, 1) := by decide +kernel
theorem d_Md_waited_2 : decode b_Md_waited 2 = .ok (.invokevirtual 115, 3) := by decide +kernel
theorem d_Md_waited_5 : decode b_Md_waited 5 = .ok (.istore_n 2, 1) := by decide +kernel
theorem d_Md_waited_6 : decode b_Md_waited 6 = .ok (.aload_n 0, 1) := by decide +kernel
theorem d_Md_waited_7 : decode b_Md_waited 7 = .ok (.iload_n 2, 1) := by decide +kernel
theorem d_Md_waited_8 : decode b_Md_waited 8 = .ok (.ifCond .ge 7, 3) := by decide +kernel
theorem d_Md_waited_11 : decode b_Md_waited 11 = .ok (.iconst 1, 1) := by decide +kernel
theorem d_Md_waited_12 : decode b_Md_waited 12 = .ok (.goto 4, 3) := by decide +kernel
theorem d_Md_waited_15 : decode b_Md_waited 15 = .ok (.iconst 0, 1) := by decide +kernel
theorem d_Md_waited_16 : decode b_Md_waited 16 = .ok (.iconst 0, 1) := by decide +kernel
theorem d_Md_waited_17 : decode b_Md_waited 17 = .ok (.iconst 0, 1) := by decide +kernel
theorem d_Md_waited_18 : decode b_Md_waited 18 = .ok (.invokevirtual 118, 3) := by decide +kernel
theorem d_Md_waited_21 : decode b_Md_waited 21 = .ok (.ifCond .eq 7, 3) := by decide +kernel
theorem d_Md_waited_24 : decode b_Md_waited 24 = .ok (.iconst 0, 1) := by decide +kernel
theorem d_Md_waited_25 : decode b_Md_waited 25 = .ok (.goto 9, 3) := by decide +kernel
theorem d_Md_waited_28 : decode b_Md_waited 28 = .ok (.aload_n 0, 1) := by decide +kernel
theorem d_Md_waited_29 : decode b_Md_waited 29 = .ok (.getfield 16, 3) := by decide +kernel
theorem d_Md_waited_32 : decode b_Md_waited 32 = .ok (.iload_n 2, 1) := by decide +kernel
theorem d_Md_waited_33 : decode b_Md_waited 33 = .ok (.iaload, 1) := by decide +kernel
theorem d_Md_waited_34 : decode b_Md_waited 34 = .ok (.ireturn, 1) := by decide +kernel
theorem d_Md_worst_0 : decode b_Md_worst 0 = .ok (.aload_n 0, 1) := by decide +kernel
theorem d_Md_worst_1 : decode b_Md_worst 1 = .ok (.iload_n 1, 1) := by decide +kernel
theorem d_Md_worst_2 : decode b_Md_worst 2 = .ok (.invokevirtual 115, 3) := by decide +kernel
theorem d_Md_worst_5 : decode b_Md_worst 5 = .ok (.istore_n 2, 1) := by decide +kernel
theorem d_Md_worst_6 : decode b_Md_worst 6 = .ok (.aload_n 0, 1) := by decide +kernel
theorem d_Md_worst_7 : decode b_Md_worst 7 = .ok (.iload_n 2, 1) := by decide +kernel
theorem d_Md_worst_8 : decode b_Md_worst 8 = .ok (.ifCond .ge 7, 3) := by decide +kernel
theorem d_Md_worst_11 : decode b_Md_worst 11 = .ok (.iconst 1, 1) := by decide +kernel
theorem d_Md_worst_12 : decode b_Md_worst 12 = .ok (.goto 4, 3) := by decide +kernel
theorem d_Md_worst_15 : decode b_Md_worst 15 = .ok (.iconst 0, 1) := by decide +kernel
theorem d_Md_worst_16 : decode b_Md_worst 16 = .ok (.iconst 0, 1) := by decide +kernel
theorem d_Md_worst_17 : decode b_Md_worst 17 = .ok (.iconst 0, 1) := by decide +kernel
theorem d_Md_worst_18 : decode b_Md_worst 18 = .ok (.invokevirtual 118, 3) := by decide +kernel
theorem d_Md_worst_21 : decode b_Md_worst 21 = .ok (.ifCond .eq 7, 3) := by decide +kernel
theorem d_Md_worst_24 : decode b_Md_worst 24 = .ok (.iconst 0, 1) := by decide +kernel
theorem d_Md_worst_25 : decode b_Md_worst 25 = .ok (.goto 9, 3) := by decide +kernel
theorem d_Md_worst_28 : decode b_Md_worst 28 = .ok (.aload_n 0, 1) := by decide +kernel
theorem d_Md_worst_29 : decode b_Md_worst 29 = .ok (.getfield 19, 3) := by decide +kernel
theorem d_Md_worst_32 : decode b_Md_worst 32 = .ok (.iload_n 2, 1) := by decide +kernel
theorem d_Md_worst_33 : decode b_Md_worst 33 = .ok (.iaload, 1) := by decide +kernel
theorem d_Md_worst_34 : decode b_Md_worst 34 = .ok (.ireturn, 1) := by decide +kernel
theorem d_Md_span_0 : decode b_Md_span 0 = .ok (.aload_n 0, 1) := by decide +kernel
theorem d_Md_span_1 : decode b_Md_span 1 = .ok (.iload_n 1, 1) := by decide +kernel
theorem d_Md_span_2 : decode b_Md_span 2 = .ok (.invokevirtual 115, 3) := by decide +kernel
theorem d_Md_span_5 : decode b_Md_span 5 = .ok (.istore_n 2, 1) := by decide +kernel
theorem d_Md_span_6 : decode b_Md_span 6 = .ok (.aload_n 0, 1) := by decide +kernel
theorem d_Md_span_7 : decode b_Md_span 7 = .ok (.iload_n 2, 1) := by decide +kernel
theorem d_Md_span_8 : decode b_Md_span 8 = .ok (.ifCond .ge 7, 3) := by decide +kernel
theorem d_Md_span_11 : decode b_Md_span 11 = .ok (.iconst 1, 1) := by decide +kernel
theorem d_Md_span_12 : decode b_Md_span 12 = .ok (.goto 4, 3) := by decide +kernel
theorem d_Md_span_15 : decode b_Md_span 15 = .ok (.iconst 0, 1) := by decide +kernel
theorem d_Md_span_16 : decode b_Md_span 16 = .ok (.iconst 0, 1) := by decide +kernel
theorem d_Md_span_17 : decode b_Md_span 17 = .ok (.iconst 0, 1) := by decide +kernel
theorem d_Md_span_18 : decode b_Md_span 18 = .ok (.invokevirtual 118, 3) := by decide +kernel
theorem d_Md_span_21 : decode b_Md_span 21 = .ok (.ifCond .eq 7, 3) := by decide +kernel
theorem d_Md_span_24 : decode b_Md_span 24 = .ok (.iconst 0, 1) := by decide +kernel
theorem d_Md_span_25 : decode b_Md_span 25 = .ok (.goto 9, 3) := by decide +kernel
theorem d_Md_span_28 : decode b_Md_span 28 = .ok (.aload_n 0, 1) := by decide +kernel
theorem d_Md_span_29 : decode b_Md_span 29 = .ok (.getfield 13, 3) := by decide +kernel
theorem d_Md_span_32 : decode b_Md_span 32 = .ok (.iload_n 2, 1) := by decide +kernel
theorem d_Md_span_33 : decode b_Md_span 33 = .ok (.iaload, 1) := by decide +kernel
theorem d_Md_span_34 : decode b_Md_span 34 = .ok (.ireturn, 1) := by decide +kernel
theorem d_Md_cycle_0 : decode b_Md_cycle 0 = .ok (.iload_n 1, 1) := by decide +kernel
theorem d_Md_cycle_1 : decode b_Md_cycle 1 = .ok (.ifCond .eq 14, 3) := by decide +kernel
theorem d_Md_cycle_4 : decode b_Md_cycle 4 = .ok (.aload_n 0, 1) := by decide +kernel
theorem d_Md_cycle_5 : decode b_Md_cycle 5 = .ok (.getfield 29, 3) := by decide +kernel
theorem d_Md_cycle_8 : decode b_Md_cycle 8 = .ok (.ifCond .ge 7, 3) := by decide +kernel
theorem d_Md_cycle_11 : decode b_Md_cycle 11 = .ok (.iconst 1, 1) := by decide +kernel
theorem d_Md_cycle_12 : decode b_Md_cycle 12 = .ok (.goto 4, 3) := by decide +kernel
theorem d_Md_cycle_15 : decode b_Md_cycle 15 = .ok (.iconst 0, 1) := by decide +kernel
theorem d_Md_cycle_16 : decode b_Md_cycle 16 = .ok (.istore_n 3, 1) := by decide +kernel
theorem d_Md_cycle_17 : decode b_Md_cycle 17 = .ok (.iload_n 1, 1) := by decide +kernel
theorem d_Md_cycle_18 : decode b_Md_cycle 18 = .ok (.ifCond .eq 10, 3) := by decide +kernel
theorem d_Md_cycle_21 : decode b_Md_cycle 21 = .ok (.aload_n 0, 1) := by decide +kernel
theorem d_Md_cycle_22 : decode b_Md_cycle 22 = .ok (.getfield 77, 3) := by decide +kernel
theorem d_Md_cycle_25 : decode b_Md_cycle 25 = .ok (.goto 7, 3) := by decide +kernel
theorem d_Md_cycle_28 : decode b_Md_cycle 28 = .ok (.aload_n 0, 1) := by decide +kernel
theorem d_Md_cycle_29 : decode b_Md_cycle 29 = .ok (.getfield 22, 3) := by decide +kernel
theorem d_Md_cycle_32 : decode b_Md_cycle 32 = .ok (.istore 4, 2) := by decide +kernel
theorem d_Md_cycle_34 : decode b_Md_cycle 34 = .ok (.aload_n 0, 1) := by decide +kernel
theorem d_Md_cycle_35 : decode b_Md_cycle 35 = .ok (.iload_n 3, 1) := by decide +kernel
theorem d_Md_cycle_36 : decode b_Md_cycle 36 = .ok (.iload_n 3, 1) := by decide +kernel
theorem d_Md_cycle_37 : decode b_Md_cycle 37 = .ok (.ifCond .ne 19, 3) := by decide +kernel
theorem d_Md_cycle_40 : decode b_Md_cycle 40 = .ok (.iload_n 2, 1) := by decide +kernel
theorem d_Md_cycle_41 : decode b_Md_cycle 41 = .ok (.iconst (-1), 1) := by decide +kernel
theorem d_Md_cycle_42 : decode b_Md_cycle 42 = .ok (.iload 4, 2) := by decide +kernel
theorem d_Md_cycle_44 : decode b_Md_cycle 44 = .ok (.iconst 1, 1) := by decide +kernel
theorem d_Md_cycle_45 : decode b_Md_cycle 45 = .ok (.isub, 1) := by decide +kernel
theorem d_Md_cycle_46 : decode b_Md_cycle 46 = .ok (.invokestatic 111, 3) := by decide +kernel
theorem d_Md_cycle_49 : decode b_Md_cycle 49 = .ok (.ifCond .ne 7, 3) := by decide +kernel
theorem d_Md_cycle_52 : decode b_Md_cycle 52 = .ok (.iconst 1, 1) := by decide +kernel
theorem d_Md_cycle_53 : decode b_Md_cycle 53 = .ok (.goto 4, 3) := by decide +kernel
theorem d_Md_cycle_56 : decode b_Md_cycle 56 = .ok (.iconst 0, 1) := by decide +kernel
theorem d_Md_cycle_57 : decode b_Md_cycle 57 = .ok (.iconst 0, 1) := by decide +kernel
theorem d_Md_cycle_58 : decode b_Md_cycle 58 = .ok (.invokevirtual 118, 3) := by decide +kernel
theorem d_Md_cycle_61 : decode b_Md_cycle 61 = .ok (.ifCond .eq 5, 3) := by decide +kernel
theorem d_Md_cycle_64 : decode b_Md_cycle 64 = .ok (.iconst 0, 1) := by decide +kernel
theorem d_Md_cycle_65 : decode b_Md_cycle 65 = .ok (.ireturn, 1) := by decide +kernel
theorem d_Md_cycle_66 : decode b_Md_cycle 66 = .ok (.iload_n 2, 1) := by decide +kernel
theorem d_Md_cycle_67 : decode b_Md_cycle 67 = .ok (.ifCond .ge 8, 3) := by decide +kernel
theorem d_Md_cycle_70 : decode b_Md_cycle 70 = .ok (.iload 4, 2) := by decide +kernel
theorem d_Md_cycle_72 : decode b_Md_cycle 72 = .ok (.goto 22, 3) := by decide +kernel
theorem d_Md_cycle_75 : decode b_Md_cycle 75 = .ok (.iload_n 1, 1) := by decide +kernel
theorem d_Md_cycle_76 : decode b_Md_cycle 76 = .ok (.ifCond .eq 12, 3) := by decide +kernel
theorem d_Md_cycle_79 : decode b_Md_cycle 79 = .ok (.aload_n 0, 1) := by decide +kernel
theorem d_Md_cycle_80 : decode b_Md_cycle 80 = .ok (.getfield 38, 3) := by decide +kernel
theorem d_Md_cycle_83 : decode b_Md_cycle 83 = .ok (.iload_n 2, 1) := by decide +kernel
theorem d_Md_cycle_84 : decode b_Md_cycle 84 = .ok (.iaload, 1) := by decide +kernel
theorem d_Md_cycle_85 : decode b_Md_cycle 85 = .ok (.goto 9, 3) := by decide +kernel
theorem d_Md_cycle_88 : decode b_Md_cycle 88 = .ok (.aload_n 0, 1) := by decide +kernel
theorem d_Md_cycle_89 : decode b_Md_cycle 89 = .ok (.getfield 26, 3) := by decide +kernel
theorem d_Md_cycle_92 : decode b_Md_cycle 92 = .ok (.iload_n 2, 1) := by decide +kernel
theorem d_Md_cycle_93 : decode b_Md_cycle 93 = .ok (.iaload, 1) := by decide +kernel
theorem d_Md_cycle_94 : decode b_Md_cycle 94 = .ok (.ireturn, 1) := by decide +kernel
theorem d_Md_about_0 : decode b_Md_about 0 = .ok (.aload_n 0, 1) := by decide +kernel
theorem d_Md_about_1 : decode b_Md_about 1 = .ok (.iload_n 1, 1) := by decide +kernel
theorem d_Md_about_2 : decode b_Md_about 2 = .ok (.iconst 0, 1) := by decide +kernel
theorem d_Md_about_3 : decode b_Md_about 3 = .ok (.bipush 6, 2) := by decide +kernel
theorem d_Md_about_5 : decode b_Md_about 5 = .ok (.invokestatic 111, 3) := by decide +kernel
end
section
theorem d_Md_about_8 : decode b_Md_about 8 = .ok (.ifCond .ne 7, 3) := by decide +kernel
theorem d_Md_about_11 : decode b_Md_about 11 = .ok (.iconst 1, 1) := by decide +kernel
theorem d_Md_about_12 : decode b_Md_about 12 = .ok (.goto 4, 3) := by decide +kernel
theorem d_Md_about_15 : decode b_Md_about 15 = .ok (.iconst 0, 1) := by decide +kernel
theorem d_Md_about_16 : decode b_Md_about 16 = .ok (.iconst 0, 1) := by decide +kernel
theorem d_Md_about_17 : decode b_Md_about 17 = .ok (.iconst 0, 1) := by decide +kernel
theorem d_Md_about_18 : decode b_Md_about 18 = .ok (.invokevirtual 118, 3) := by decide +kernel
theorem d_Md_about_21 : decode b_Md_about 21 = .ok (.ifCond .eq 5, 3) := by decide +kernel
theorem d_Md_about_24 : decode b_Md_about 24 = .ok (.iconst 0, 1) := by decide +kernel
theorem d_Md_about_25 : decode b_Md_about 25 = .ok (.ireturn, 1) := by decide +kernel
theorem d_Md_about_26 : decode b_Md_about 26 = .ok (.iload_n 1, 1) := by decide +kernel
theorem d_Md_about_27 : decode b_Md_about 27 = .ok (.tableswitch 67 0 5 #[37, 42, 47, 52, 57, 62], 37) := by decide +kernel
theorem d_Md_about_64 : decode b_Md_about 64 = .ok (.aload_n 0, 1) := by decide +kernel
theorem d_Md_about_65 : decode b_Md_about 65 = .ok (.getfield 134, 3) := by decide +kernel
theorem d_Md_about_68 : decode b_Md_about 68 = .ok (.ireturn, 1) := by decide +kernel
theorem d_Md_about_69 : decode b_Md_about 69 = .ok (.aload_n 0, 1) := by decide +kernel
theorem d_Md_about_70 : decode b_Md_about 70 = .ok (.getfield 29, 3) := by decide +kernel
theorem d_Md_about_73 : decode b_Md_about 73 = .ok (.ireturn, 1) := by decide +kernel
theorem d_Md_about_74 : decode b_Md_about 74 = .ok (.aload_n 0, 1) := by decide +kernel
theorem d_Md_about_75 : decode b_Md_about 75 = .ok (.getfield 60, 3) := by decide +kernel
theorem d_Md_about_78 : decode b_Md_about 78 = .ok (.ireturn, 1) := by decide +kernel
theorem d_Md_about_79 : decode b_Md_about 79 = .ok (.aload_n 0, 1) := by decide +kernel
theorem d_Md_about_80 : decode b_Md_about 80 = .ok (.getfield 128, 3) := by decide +kernel
theorem d_Md_about_83 : decode b_Md_about 83 = .ok (.ireturn, 1) := by decide +kernel
theorem d_Md_about_84 : decode b_Md_about 84 = .ok (.aload_n 0, 1) := by decide +kernel
theorem d_Md_about_85 : decode b_Md_about 85 = .ok (.getfield 131, 3) := by decide +kernel
theorem d_Md_about_88 : decode b_Md_about 88 = .ok (.ireturn, 1) := by decide +kernel
theorem d_Md_about_89 : decode b_Md_about 89 = .ok (.aload_n 0, 1) := by decide +kernel
theorem d_Md_about_90 : decode b_Md_about 90 = .ok (.getfield 143, 3) := by decide +kernel
theorem d_Md_about_93 : decode b_Md_about 93 = .ok (.ireturn, 1) := by decide +kernel
theorem d_Md_about_94 : decode b_Md_about 94 = .ok (.aload_n 0, 1) := by decide +kernel
theorem d_Md_about_95 : decode b_Md_about 95 = .ok (.getfield 149, 3) := by decide +kernel
theorem d_Md_about_98 : decode b_Md_about 98 = .ok (.ireturn, 1) := by decide +kernel
theorem d_Md_client_0 : decode b_Md_client 0 = .ok (.aload_n 0, 1) := by decide +kernel
theorem d_Md_client_1 : decode b_Md_client 1 = .ok (.iload_n 1, 1) := by decide +kernel
theorem d_Md_client_2 : decode b_Md_client 2 = .ok (.iconst 0, 1) := by decide +kernel
theorem d_Md_client_3 : decode b_Md_client 3 = .ok (.aload_n 0, 1) := by decide +kernel
theorem d_Md_client_4 : decode b_Md_client 4 = .ok (.getfield 60, 3) := by decide +kernel
theorem d_Md_client_7 : decode b_Md_client 7 = .ok (.iconst 1, 1) := by decide +kernel
theorem d_Md_client_8 : decode b_Md_client 8 = .ok (.isub, 1) := by decide +kernel
theorem d_Md_client_9 : decode b_Md_client 9 = .ok (.invokestatic 111, 3) := by decide +kernel
theorem d_Md_client_12 : decode b_Md_client 12 = .ok (.ifCond .ne 7, 3) := by decide +kernel
theorem d_Md_client_15 : decode b_Md_client 15 = .ok (.iconst 1, 1) := by decide +kernel
theorem d_Md_client_16 : decode b_Md_client 16 = .ok (.goto 4, 3) := by decide +kernel
theorem d_Md_client_19 : decode b_Md_client 19 = .ok (.iconst 0, 1) := by decide +kernel
theorem d_Md_client_20 : decode b_Md_client 20 = .ok (.iconst 0, 1) := by decide +kernel
theorem d_Md_client_21 : decode b_Md_client 21 = .ok (.iconst 0, 1) := by decide +kernel
theorem d_Md_client_22 : decode b_Md_client 22 = .ok (.invokevirtual 118, 3) := by decide +kernel
theorem d_Md_client_25 : decode b_Md_client 25 = .ok (.ifCond .eq 7, 3) := by decide +kernel
theorem d_Md_client_28 : decode b_Md_client 28 = .ok (.iconst 0, 1) := by decide +kernel
theorem d_Md_client_29 : decode b_Md_client 29 = .ok (.goto 9, 3) := by decide +kernel
theorem d_Md_client_32 : decode b_Md_client 32 = .ok (.aload_n 0, 1) := by decide +kernel
theorem d_Md_client_33 : decode b_Md_client 33 = .ok (.getfield 7, 3) := by decide +kernel
theorem d_Md_client_36 : decode b_Md_client 36 = .ok (.iload_n 1, 1) := by decide +kernel
theorem d_Md_client_37 : decode b_Md_client 37 = .ok (.iaload, 1) := by decide +kernel
theorem d_Md_client_38 : decode b_Md_client 38 = .ok (.ireturn, 1) := by decide +kernel
theorem d_Md_density_0 : decode b_Md_density 0 = .ok (.aload_n 0, 1) := by decide +kernel
theorem d_Md_density_1 : decode b_Md_density 1 = .ok (.iload_n 1, 1) := by decide +kernel
theorem d_Md_density_2 : decode b_Md_density 2 = .ok (.iconst 0, 1) := by decide +kernel
theorem d_Md_density_3 : decode b_Md_density 3 = .ok (.iconst 1, 1) := by decide +kernel
theorem d_Md_density_4 : decode b_Md_density 4 = .ok (.invokestatic 111, 3) := by decide +kernel
theorem d_Md_density_7 : decode b_Md_density 7 = .ok (.ifCond .ne 7, 3) := by decide +kernel
theorem d_Md_density_10 : decode b_Md_density 10 = .ok (.iconst 1, 1) := by decide +kernel
theorem d_Md_density_11 : decode b_Md_density 11 = .ok (.goto 4, 3) := by decide +kernel
theorem d_Md_density_14 : decode b_Md_density 14 = .ok (.iconst 0, 1) := by decide +kernel
theorem d_Md_density_15 : decode b_Md_density 15 = .ok (.iconst 0, 1) := by decide +kernel
theorem d_Md_density_16 : decode b_Md_density 16 = .ok (.iconst 0, 1) := by decide +kernel
theorem d_Md_density_17 : decode b_Md_density 17 = .ok (.invokevirtual 118, 3) := by decide +kernel
theorem d_Md_density_20 : decode b_Md_density 20 = .ok (.ifCond .eq 5, 3) := by decide +kernel
theorem d_Md_density_23 : decode b_Md_density 23 = .ok (.lconst 0, 1) := by decide +kernel
theorem d_Md_density_24 : decode b_Md_density 24 = .ok (.lreturn, 1) := by decide +kernel
theorem d_Md_density_25 : decode b_Md_density 25 = .ok (.lconst 0, 1) := by decide +kernel
theorem d_Md_density_26 : decode b_Md_density 26 = .ok (.lstore_n 2, 1) := by decide +kernel
theorem d_Md_density_27 : decode b_Md_density 27 = .ok (.lconst 1, 1) := by decide +kernel
theorem d_Md_density_28 : decode b_Md_density 28 = .ok (.lstore 4, 2) := by decide +kernel
theorem d_Md_density_30 : decode b_Md_density 30 = .ok (.iconst 0, 1) := by decide +kernel
theorem d_Md_density_31 : decode b_Md_density 31 = .ok (.istore 6, 2) := by decide +kernel
theorem d_Md_density_33 : decode b_Md_density 33 = .ok (.iload 6, 2) := by decide +kernel
theorem d_Md_density_35 : decode b_Md_density 35 = .ok (.aload_n 0, 1) := by decide +kernel
theorem d_Md_density_36 : decode b_Md_density 36 = .ok (.getfield 60, 3) := by decide +kernel
theorem d_Md_density_39 : decode b_Md_density 39 = .ok (.if_icmp .ge 56, 3) := by decide +kernel
theorem d_Md_density_42 : decode b_Md_density 42 = .ok (.lload_n 2, 1) := by decide +kernel
theorem d_Md_density_43 : decode b_Md_density 43 = .ok (.aload_n 0, 1) := by decide +kernel
theorem d_Md_density_44 : decode b_Md_density 44 = .ok (.getfield 13, 3) := by decide +kernel
theorem d_Md_density_47 : decode b_Md_density 47 = .ok (.iload 6, 2) := by decide +kernel
theorem d_Md_density_49 : decode b_Md_density 49 = .ok (.iaload, 1) := by decide +kernel
theorem d_Md_density_50 : decode b_Md_density 50 = .ok (.i2l, 1) := by decide +kernel
theorem d_Md_density_51 : decode b_Md_density 51 = .ok (.lmul, 1) := by decide +kernel
theorem d_Md_density_52 : decode b_Md_density 52 = .ok (.lload 4, 2) := by decide +kernel
theorem d_Md_density_54 : decode b_Md_density 54 = .ok (.ladd, 1) := by decide +kernel
theorem d_Md_density_55 : decode b_Md_density 55 = .ok (.lstore_n 2, 1) := by decide +kernel
theorem d_Md_density_56 : decode b_Md_density 56 = .ok (.lload 4, 2) := by decide +kernel
theorem d_Md_density_58 : decode b_Md_density 58 = .ok (.aload_n 0, 1) := by decide +kernel
theorem d_Md_density_59 : decode b_Md_density 59 = .ok (.getfield 13, 3) := by decide +kernel
theorem d_Md_density_62 : decode b_Md_density 62 = .ok (.iload 6, 2) := by decide +kernel
theorem d_Md_density_64 : decode b_Md_density 64 = .ok (.iaload, 1) := by decide +kernel
theorem d_Md_density_65 : decode b_Md_density 65 = .ok (.i2l, 1) := by decide +kernel
theorem d_Md_density_66 : decode b_Md_density 66 = .ok (.lmul, 1) := by decide +kernel
theorem d_Md_density_67 : decode b_Md_density 67 = .ok (.lstore 4, 2) := by decide +kernel
theorem d_Md_density_69 : decode b_Md_density 69 = .ok (.lload_n 2, 1) := by decide +kernel
theorem d_Md_density_70 : decode b_Md_density 70 = .ok (.lload 4, 2) := by decide +kernel
theorem d_Md_density_72 : decode b_Md_density 72 = .ok (.invokestatic 152, 3) := by decide +kernel
theorem d_Md_density_75 : decode b_Md_density 75 = .ok (.lstore 7, 2) := by decide +kernel
theorem d_Md_density_77 : decode b_Md_density 77 = .ok (.lload_n 2, 1) := by decide +kernel
theorem d_Md_density_78 : decode b_Md_density 78 = .ok (.lload 7, 2) := by decide +kernel
theorem d_Md_density_80 : decode b_Md_density 80 = .ok (.ldiv, 1) := by decide +kernel
theorem d_Md_density_81 : decode b_Md_density 81 = .ok (.lstore_n 2, 1) := by decide +kernel
theorem d_Md_density_82 : decode b_Md_density 82 = .ok (.lload 4, 2) := by decide +kernel
theorem d_Md_density_84 : decode b_Md_density 84 = .ok (.lload 7, 2) := by decide +kernel
theorem d_Md_density_86 : decode b_Md_density 86 = .ok (.ldiv, 1) := by decide +kernel
theorem d_Md_density_87 : decode b_Md_density 87 = .ok (.lstore 4, 2) := by decide +kernel
theorem d_Md_density_89 : decode b_Md_density 89 = .ok (.iinc 6 1, 3) := by decide +kernel
theorem d_Md_density_92 : decode b_Md_density 92 = .ok (.goto (-59), 3) := by decide +kernel
theorem d_Md_density_95 : decode b_Md_density 95 = .ok (.iload_n 1, 1) := by decide +kernel
theorem d_Md_density_96 : decode b_Md_density 96 = .ok (.ifCond .ne 7, 3) := by decide +kernel
theorem d_Md_density_99 : decode b_Md_density 99 = .ok (.lload_n 2, 1) := by decide +kernel
theorem d_Md_density_100 : decode b_Md_density 100 = .ok (.goto 5, 3) := by decide +kernel
theorem d_Md_density_103 : decode b_Md_density 103 = .ok (.lload 4, 2) := by decide +kernel
theorem d_Md_density_105 : decode b_Md_density 105 = .ok (.lreturn, 1) := by decide +kernel
theorem d_Md_common_0 : decode b_Md_common 0 = .ok (.lload_n 0, 1) := by decide +kernel
theorem d_Md_common_1 : decode b_Md_common 1 = .ok (.lstore 4, 2) := by decide +kernel
theorem d_Md_common_3 : decode b_Md_common 3 = .ok (.lload_n 2, 1) := by decide +kernel
theorem d_Md_common_4 : decode b_Md_common 4 = .ok (.lstore 6, 2) := by decide +kernel
theorem d_Md_common_6 : decode b_Md_common 6 = .ok (.lload 6, 2) := by decide +kernel
theorem d_Md_common_8 : decode b_Md_common 8 = .ok (.lconst 0, 1) := by decide +kernel
theorem d_Md_common_9 : decode b_Md_common 9 = .ok (.lcmp, 1) := by decide +kernel
theorem d_Md_common_10 : decode b_Md_common 10 = .ok (.ifCond .eq 21, 3) := by decide +kernel
theorem d_Md_common_13 : decode b_Md_common 13 = .ok (.lload 4, 2) := by decide +kernel
theorem d_Md_common_15 : decode b_Md_common 15 = .ok (.lload 6, 2) := by decide +kernel
theorem d_Md_common_17 : decode b_Md_common 17 = .ok (.lrem, 1) := by decide +kernel
theorem d_Md_common_18 : decode b_Md_common 18 = .ok (.lstore 8, 2) := by decide +kernel
theorem d_Md_common_20 : decode b_Md_common 20 = .ok (.lload 6, 2) := by decide +kernel
theorem d_Md_common_22 : decode b_Md_common 22 = .ok (.lstore 4, 2) := by decide +kernel
theorem d_Md_common_24 : decode b_Md_common 24 = .ok (.lload 8, 2) := by decide +kernel
theorem d_Md_common_26 : decode b_Md_common 26 = .ok (.lstore 6, 2) := by decide +kernel
theorem d_Md_common_28 : decode b_Md_common 28 = .ok (.goto (-22), 3) := by decide +kernel
theorem d_Md_common_31 : decode b_Md_common 31 = .ok (.lload 4, 2) := by decide +kernel
theorem d_Md_common_33 : decode b_Md_common 33 = .ok (.lreturn, 1) := by decide +kernel
theorem d_Md_feasible_0 : decode b_Md_feasible 0 = .ok (.aload_n 0, 1) := by decide +kernel
theorem d_Md_feasible_1 : decode b_Md_feasible 1 = .ok (.iconst 0, 1) := by decide +kernel
theorem d_Md_feasible_2 : decode b_Md_feasible 2 = .ok (.putfield 57, 3) := by decide +kernel
theorem d_Md_feasible_5 : decode b_Md_feasible 5 = .ok (.aload_n 0, 1) := by decide +kernel
theorem d_Md_feasible_6 : decode b_Md_feasible 6 = .ok (.iconst 0, 1) := by decide +kernel
theorem d_Md_feasible_7 : decode b_Md_feasible 7 = .ok (.putfield 63, 3) := by decide +kernel
theorem d_Md_feasible_10 : decode b_Md_feasible 10 = .ok (.aload_n 0, 1) := by decide +kernel
theorem d_Md_feasible_11 : decode b_Md_feasible 11 = .ok (.getfield 60, 3) := by decide +kernel
theorem d_Md_feasible_14 : decode b_Md_feasible 14 = .ok (.iconst 4, 1) := by decide +kernel
theorem d_Md_feasible_15 : decode b_Md_feasible 15 = .ok (.if_icmp .le 9, 3) := by decide +kernel
theorem d_Md_feasible_18 : decode b_Md_feasible 18 = .ok (.sipush 1501, 3) := by decide +kernel
theorem d_Md_feasible_21 : decode b_Md_feasible 21 = .ok (.goto 4, 3) := by decide +kernel
theorem d_Md_feasible_24 : decode b_Md_feasible 24 = .ok (.iconst 1, 1) := by decide +kernel
theorem d_Md_feasible_25 : decode b_Md_feasible 25 = .ok (.istore_n 1, 1) := by decide +kernel
theorem d_Md_feasible_26 : decode b_Md_feasible 26 = .ok (.iconst 0, 1) := by decide +kernel
theorem d_Md_feasible_27 : decode b_Md_feasible 27 = .ok (.istore_n 2, 1) := by decide +kernel
theorem d_Md_feasible_28 : decode b_Md_feasible 28 = .ok (.iload_n 2, 1) := by decide +kernel
theorem d_Md_feasible_29 : decode b_Md_feasible 29 = .ok (.aload_n 0, 1) := by decide +kernel
theorem d_Md_feasible_30 : decode b_Md_feasible 30 = .ok (.getfield 60, 3) := by decide +kernel
theorem d_Md_feasible_33 : decode b_Md_feasible 33 = .ok (.if_icmp .ge 44, 3) := by decide +kernel
theorem d_Md_feasible_36 : decode b_Md_feasible 36 = .ok (.iload_n 1, 1) := by decide +kernel
theorem d_Md_feasible_37 : decode b_Md_feasible 37 = .ok (.sipush 1500, 3) := by decide +kernel
theorem d_Md_feasible_40 : decode b_Md_feasible 40 = .ok (.if_icmp .gt 37, 3) := by decide +kernel
theorem d_Md_feasible_43 : decode b_Md_feasible 43 = .ok (.aload_n 0, 1) := by decide +kernel
theorem d_Md_feasible_44 : decode b_Md_feasible 44 = .ok (.getfield 44, 3) := by decide +kernel
theorem d_Md_feasible_47 : decode b_Md_feasible 47 = .ok (.iload_n 2, 1) := by decide +kernel
theorem d_Md_feasible_48 : decode b_Md_feasible 48 = .ok (.aload_n 0, 1) := by decide +kernel
theorem d_Md_feasible_49 : decode b_Md_feasible 49 = .ok (.getfield 13, 3) := by decide +kernel
theorem d_Md_feasible_52 : decode b_Md_feasible 52 = .ok (.iload_n 2, 1) := by decide +kernel
theorem d_Md_feasible_53 : decode b_Md_feasible 53 = .ok (.iaload, 1) := by decide +kernel
theorem d_Md_feasible_54 : decode b_Md_feasible 54 = .ok (.iastore, 1) := by decide +kernel
theorem d_Md_feasible_55 : decode b_Md_feasible 55 = .ok (.iload_n 1, 1) := by decide +kernel
theorem d_Md_feasible_56 : decode b_Md_feasible 56 = .ok (.aload_n 0, 1) := by decide +kernel
theorem d_Md_feasible_57 : decode b_Md_feasible 57 = .ok (.getfield 13, 3) := by decide +kernel
theorem d_Md_feasible_60 : decode b_Md_feasible 60 = .ok (.iload_n 2, 1) := by decide +kernel
theorem d_Md_feasible_61 : decode b_Md_feasible 61 = .ok (.iaload, 1) := by decide +kernel
theorem d_Md_feasible_62 : decode b_Md_feasible 62 = .ok (.imul, 1) := by decide +kernel
theorem d_Md_feasible_63 : decode b_Md_feasible 63 = .ok (.istore_n 1, 1) := by decide +kernel
theorem d_Md_feasible_64 : decode b_Md_feasible 64 = .ok (.aload_n 0, 1) := by decide +kernel
theorem d_Md_feasible_65 : decode b_Md_feasible 65 = .ok (.iload_n 2, 1) := by decide +kernel
theorem d_Md_feasible_66 : decode b_Md_feasible 66 = .ok (.iconst 1, 1) := by decide +kernel
theorem d_Md_feasible_67 : decode b_Md_feasible 67 = .ok (.iadd, 1) := by decide +kernel
theorem d_Md_feasible_68 : decode b_Md_feasible 68 = .ok (.putfield 63, 3) := by decide +kernel
theorem d_Md_feasible_71 : decode b_Md_feasible 71 = .ok (.iinc 2 1, 3) := by decide +kernel
theorem d_Md_feasible_74 : decode b_Md_feasible 74 = .ok (.goto (-46), 3) := by decide +kernel
theorem d_Md_feasible_77 : decode b_Md_feasible 77 = .ok (.iload_n 1, 1) := by decide +kernel
theorem d_Md_feasible_78 : decode b_Md_feasible 78 = .ok (.sipush 1500, 3) := by decide +kernel
theorem d_Md_feasible_81 : decode b_Md_feasible 81 = .ok (.if_icmp .le 5, 3) := by decide +kernel
theorem d_Md_feasible_84 : decode b_Md_feasible 84 = .ok (.iconst (-1), 1) := by decide +kernel
theorem d_Md_feasible_85 : decode b_Md_feasible 85 = .ok (.ireturn, 1) := by decide +kernel
theorem d_Md_feasible_86 : decode b_Md_feasible 86 = .ok (.aload_n 0, 1) := by decide +kernel
theorem d_Md_feasible_87 : decode b_Md_feasible 87 = .ok (.iload_n 1, 1) := by decide +kernel
theorem d_Md_feasible_88 : decode b_Md_feasible 88 = .ok (.invokevirtual 101, 3) := by decide +kernel
theorem d_Md_feasible_91 : decode b_Md_feasible 91 = .ok (.ifCond .eq 7, 3) := by decide +kernel
theorem d_Md_feasible_94 : decode b_Md_feasible 94 = .ok (.iconst 1, 1) := by decide +kernel
theorem d_Md_feasible_95 : decode b_Md_feasible 95 = .ok (.goto 4, 3) := by decide +kernel
theorem d_Md_feasible_98 : decode b_Md_feasible 98 = .ok (.iconst 0, 1) := by decide +kernel
theorem d_Md_feasible_99 : decode b_Md_feasible 99 = .ok (.ireturn, 1) := by decide +kernel
theorem d_Lw_law_0 : decode b_Lw_law 0 = .ok (.new 8, 3) := by decide +kernel
theorem d_Lw_law_3 : decode b_Lw_law 3 = .ok (.dup, 1) := by decide +kernel
theorem d_Lw_law_4 : decode b_Lw_law 4 = .ok (.invokespecial 54, 3) := by decide +kernel
theorem d_Lw_law_7 : decode b_Lw_law 7 = .ok (.astore_n 1, 1) := by decide +kernel
theorem d_Lw_law_8 : decode b_Lw_law 8 = .ok (.new 55, 3) := by decide +kernel
theorem d_Lw_law_11 : decode b_Lw_law 11 = .ok (.dup, 1) := by decide +kernel
theorem d_Lw_law_12 : decode b_Lw_law 12 = .ok (.invokespecial 57, 3) := by decide +kernel
theorem d_Lw_law_15 : decode b_Lw_law 15 = .ok (.astore_n 2, 1) := by decide +kernel
theorem d_Lw_law_16 : decode b_Lw_law 16 = .ok (.iconst 1, 1) := by decide +kernel
theorem d_Lw_law_17 : decode b_Lw_law 17 = .ok (.newarray .long, 2) := by decide +kernel
theorem d_Lw_law_19 : decode b_Lw_law 19 = .ok (.astore_n 3, 1) := by decide +kernel
theorem d_Lw_law_20 : decode b_Lw_law 20 = .ok (.iconst 0, 1) := by decide +kernel
theorem d_Lw_law_21 : decode b_Lw_law 21 = .ok (.istore 4, 2) := by decide +kernel
theorem d_Lw_law_23 : decode b_Lw_law 23 = .ok (.iload 4, 2) := by decide +kernel
theorem d_Lw_law_25 : decode b_Lw_law 25 = .ok (.aload_n 0, 1) := by decide +kernel
theorem d_Lw_law_26 : decode b_Lw_law 26 = .ok (.arraylength, 1) := by decide +kernel
theorem d_Lw_law_27 : decode b_Lw_law 27 = .ok (.iconst 3, 1) := by decide +kernel
theorem d_Lw_law_28 : decode b_Lw_law 28 = .ok (.isub, 1) := by decide +kernel
theorem d_Lw_law_29 : decode b_Lw_law 29 = .ok (.if_icmp .gt 682, 3) := by decide +kernel
theorem d_Lw_law_32 : decode b_Lw_law 32 = .ok (.aload_n 0, 1) := by decide +kernel
theorem d_Lw_law_33 : decode b_Lw_law 33 = .ok (.iload 4, 2) := by decide +kernel
theorem d_Lw_law_35 : decode b_Lw_law 35 = .ok (.iaload, 1) := by decide +kernel
theorem d_Lw_law_36 : decode b_Lw_law 36 = .ok (.bipush 15, 2) := by decide +kernel
theorem d_Lw_law_38 : decode b_Lw_law 38 = .ok (.iand, 1) := by decide +kernel
theorem d_Lw_law_39 : decode b_Lw_law 39 = .ok (.tableswitch 666 0 11 #[61, 129, 185, 198, 234, 290, 346, 402, 486, 542, 598, 653], 61) := by decide +kernel
theorem d_Lw_law_100 : decode b_Lw_law 100 = .ok (.aload_n 1, 1) := by decide +kernel
theorem d_Lw_law_101 : decode b_Lw_law 101 = .ok (.aload_n 0, 1) := by decide +kernel
theorem d_Lw_law_102 : decode b_Lw_law 102 = .ok (.iload 4, 2) := by decide +kernel
theorem d_Lw_law_104 : decode b_Lw_law 104 = .ok (.iconst 1, 1) := by decide +kernel
theorem d_Lw_law_105 : decode b_Lw_law 105 = .ok (.iadd, 1) := by decide +kernel
theorem d_Lw_law_106 : decode b_Lw_law 106 = .ok (.iaload, 1) := by decide +kernel
theorem d_Lw_law_107 : decode b_Lw_law 107 = .ok (.aload_n 0, 1) := by decide +kernel
theorem d_Lw_law_108 : decode b_Lw_law 108 = .ok (.iload 4, 2) := by decide +kernel
theorem d_Lw_law_110 : decode b_Lw_law 110 = .ok (.iconst 2, 1) := by decide +kernel
theorem d_Lw_law_111 : decode b_Lw_law 111 = .ok (.iadd, 1) := by decide +kernel
theorem d_Lw_law_112 : decode b_Lw_law 112 = .ok (.iaload, 1) := by decide +kernel
theorem d_Lw_law_113 : decode b_Lw_law 113 = .ok (.aload_n 3, 1) := by decide +kernel
theorem d_Lw_law_114 : decode b_Lw_law 114 = .ok (.invokestatic 58, 3) := by decide +kernel
theorem d_Lw_law_117 : decode b_Lw_law 117 = .ok (.istore 5, 2) := by decide +kernel
theorem d_Lw_law_119 : decode b_Lw_law 119 = .ok (.aload_n 2, 1) := by decide +kernel
theorem d_Lw_law_120 : decode b_Lw_law 120 = .ok (.aload_n 0, 1) := by decide +kernel
theorem d_Lw_law_121 : decode b_Lw_law 121 = .ok (.iload 4, 2) := by decide +kernel
theorem d_Lw_law_123 : decode b_Lw_law 123 = .ok (.iconst 1, 1) := by decide +kernel
theorem d_Lw_law_124 : decode b_Lw_law 124 = .ok (.iadd, 1) := by decide +kernel
theorem d_Lw_law_125 : decode b_Lw_law 125 = .ok (.iaload, 1) := by decide +kernel
theorem d_Lw_law_126 : decode b_Lw_law 126 = .ok (.aload_n 0, 1) := by decide +kernel
theorem d_Lw_law_127 : decode b_Lw_law 127 = .ok (.iload 4, 2) := by decide +kernel
theorem d_Lw_law_129 : decode b_Lw_law 129 = .ok (.iconst 2, 1) := by decide +kernel
theorem d_Lw_law_130 : decode b_Lw_law 130 = .ok (.iadd, 1) := by decide +kernel
theorem d_Lw_law_131 : decode b_Lw_law 131 = .ok (.iaload, 1) := by decide +kernel
theorem d_Lw_law_132 : decode b_Lw_law 132 = .ok (.invokevirtual 63, 3) := by decide +kernel
theorem d_Lw_law_135 : decode b_Lw_law 135 = .ok (.istore 6, 2) := by decide +kernel
theorem d_Lw_law_137 : decode b_Lw_law 137 = .ok (.aload_n 2, 1) := by decide +kernel
theorem d_Lw_law_138 : decode b_Lw_law 138 = .ok (.invokevirtual 64, 3) := by decide +kernel
theorem d_Lw_law_141 : decode b_Lw_law 141 = .ok (.iload 5, 2) := by decide +kernel
theorem d_Lw_law_143 : decode b_Lw_law 143 = .ok (.if_icmp .eq 5, 3) := by decide +kernel
theorem d_Lw_law_146 : decode b_Lw_law 146 = .ok (.iconst 0, 1) := by decide +kernel
theorem d_Lw_law_147 : decode b_Lw_law 147 = .ok (.ireturn, 1) := by decide +kernel
theorem d_Lw_law_148 : decode b_Lw_law 148 = .ok (.iload 5, 2) := by decide +kernel
theorem d_Lw_law_150 : decode b_Lw_law 150 = .ok (.ifCond .ne 15, 3) := by decide +kernel
theorem d_Lw_law_153 : decode b_Lw_law 153 = .ok (.aload_n 3, 1) := by decide +kernel
theorem d_Lw_law_154 : decode b_Lw_law 154 = .ok (.iconst 0, 1) := by decide +kernel
theorem d_Lw_law_155 : decode b_Lw_law 155 = .ok (.laload, 1) := by decide +kernel
theorem d_Lw_law_156 : decode b_Lw_law 156 = .ok (.iload 6, 2) := by decide +kernel
theorem d_Lw_law_158 : decode b_Lw_law 158 = .ok (.i2l, 1) := by decide +kernel
theorem d_Lw_law_159 : decode b_Lw_law 159 = .ok (.lcmp, 1) := by decide +kernel
theorem d_Lw_law_160 : decode b_Lw_law 160 = .ok (.ifCond .eq 5, 3) := by decide +kernel
theorem d_Lw_law_163 : decode b_Lw_law 163 = .ok (.iconst 0, 1) := by decide +kernel
theorem d_Lw_law_164 : decode b_Lw_law 164 = .ok (.ireturn, 1) := by decide +kernel
theorem d_Lw_law_165 : decode b_Lw_law 165 = .ok (.goto 540, 3) := by decide +kernel
theorem d_Lw_law_168 : decode b_Lw_law 168 = .ok (.aload_n 1, 1) := by decide +kernel
theorem d_Lw_law_169 : decode b_Lw_law 169 = .ok (.aload_n 0, 1) := by decide +kernel
theorem d_Lw_law_170 : decode b_Lw_law 170 = .ok (.iload 4, 2) := by decide +kernel
theorem d_Lw_law_172 : decode b_Lw_law 172 = .ok (.iconst 1, 1) := by decide +kernel
theorem d_Lw_law_173 : decode b_Lw_law 173 = .ok (.iadd, 1) := by decide +kernel
theorem d_Lw_law_174 : decode b_Lw_law 174 = .ok (.iaload, 1) := by decide +kernel
theorem d_Lw_law_175 : decode b_Lw_law 175 = .ok (.aload_n 3, 1) := by decide +kernel
theorem d_Lw_law_176 : decode b_Lw_law 176 = .ok (.invokestatic 68, 3) := by decide +kernel
theorem d_Lw_law_179 : decode b_Lw_law 179 = .ok (.istore 5, 2) := by decide +kernel
theorem d_Lw_law_181 : decode b_Lw_law 181 = .ok (.aload_n 2, 1) := by decide +kernel
theorem d_Lw_law_182 : decode b_Lw_law 182 = .ok (.aload_n 0, 1) := by decide +kernel
theorem d_Lw_law_183 : decode b_Lw_law 183 = .ok (.iload 4, 2) := by decide +kernel
theorem d_Lw_law_185 : decode b_Lw_law 185 = .ok (.iconst 1, 1) := by decide +kernel
theorem d_Lw_law_186 : decode b_Lw_law 186 = .ok (.iadd, 1) := by decide +kernel
theorem d_Lw_law_187 : decode b_Lw_law 187 = .ok (.iaload, 1) := by decide +kernel
theorem d_Lw_law_188 : decode b_Lw_law 188 = .ok (.invokevirtual 71, 3) := by decide +kernel
theorem d_Lw_law_191 : decode b_Lw_law 191 = .ok (.istore 6, 2) := by decide +kernel
theorem d_Lw_law_193 : decode b_Lw_law 193 = .ok (.aload_n 2, 1) := by decide +kernel
theorem d_Lw_law_194 : decode b_Lw_law 194 = .ok (.invokevirtual 64, 3) := by decide +kernel
theorem d_Lw_law_197 : decode b_Lw_law 197 = .ok (.iload 5, 2) := by decide +kernel
theorem d_Lw_law_199 : decode b_Lw_law 199 = .ok (.if_icmp .eq 5, 3) := by decide +kernel
theorem d_Lw_law_202 : decode b_Lw_law 202 = .ok (.iconst 0, 1) := by decide +kernel
theorem d_Lw_law_203 : decode b_Lw_law 203 = .ok (.ireturn, 1) := by decide +kernel
theorem d_Lw_law_204 : decode b_Lw_law 204 = .ok (.iload 5, 2) := by decide +kernel
theorem d_Lw_law_206 : decode b_Lw_law 206 = .ok (.ifCond .ne 15, 3) := by decide +kernel
theorem d_Lw_law_209 : decode b_Lw_law 209 = .ok (.aload_n 3, 1) := by decide +kernel
theorem d_Lw_law_210 : decode b_Lw_law 210 = .ok (.iconst 0, 1) := by decide +kernel
theorem d_Lw_law_211 : decode b_Lw_law 211 = .ok (.laload, 1) := by decide +kernel
theorem d_Lw_law_212 : decode b_Lw_law 212 = .ok (.iload 6, 2) := by decide +kernel
theorem d_Lw_law_214 : decode b_Lw_law 214 = .ok (.i2l, 1) := by decide +kernel
theorem d_Lw_law_215 : decode b_Lw_law 215 = .ok (.lcmp, 1) := by decide +kernel
theorem d_Lw_law_216 : decode b_Lw_law 216 = .ok (.ifCond .eq 5, 3) := by decide +kernel
theorem d_Lw_law_219 : decode b_Lw_law 219 = .ok (.iconst 0, 1) := by decide +kernel
theorem d_Lw_law_220 : decode b_Lw_law 220 = .ok (.ireturn, 1) := by decide +kernel
theorem d_Lw_law_221 : decode b_Lw_law 221 = .ok (.goto 484, 3) := by decide +kernel
theorem d_Lw_law_224 : decode b_Lw_law 224 = .ok (.aload_n 1, 1) := by decide +kernel
theorem d_Lw_law_225 : decode b_Lw_law 225 = .ok (.invokevirtual 72, 3) := by decide +kernel
theorem d_Lw_law_228 : decode b_Lw_law 228 = .ok (.aload_n 2, 1) := by decide +kernel
theorem d_Lw_law_229 : decode b_Lw_law 229 = .ok (.invokevirtual 75, 3) := by decide +kernel
theorem d_Lw_law_232 : decode b_Lw_law 232 = .ok (.if_icmp .eq 473, 3) := by decide +kernel
theorem d_Lw_law_235 : decode b_Lw_law 235 = .ok (.iconst 0, 1) := by decide +kernel
theorem d_Lw_law_236 : decode b_Lw_law 236 = .ok (.ireturn, 1) := by decide +kernel
theorem d_Lw_law_237 : decode b_Lw_law 237 = .ok (.aload_n 1, 1) := by decide +kernel
theorem d_Lw_law_238 : decode b_Lw_law 238 = .ok (.aload_n 0, 1) := by decide +kernel
theorem d_Lw_law_239 : decode b_Lw_law 239 = .ok (.iload 4, 2) := by decide +kernel
theorem d_Lw_law_241 : decode b_Lw_law 241 = .ok (.iconst 1, 1) := by decide +kernel
theorem d_Lw_law_242 : decode b_Lw_law 242 = .ok (.iadd, 1) := by decide +kernel
theorem d_Lw_law_243 : decode b_Lw_law 243 = .ok (.iaload, 1) := by decide +kernel
theorem d_Lw_law_244 : decode b_Lw_law 244 = .ok (.invokestatic 76, 3) := by decide +kernel
theorem d_Lw_law_247 : decode b_Lw_law 247 = .ok (.istore 5, 2) := by decide +kernel
theorem d_Lw_law_249 : decode b_Lw_law 249 = .ok (.aload_n 2, 1) := by decide +kernel
theorem d_Lw_law_250 : decode b_Lw_law 250 = .ok (.aload_n 0, 1) := by decide +kernel
theorem d_Lw_law_251 : decode b_Lw_law 251 = .ok (.iload 4, 2) := by decide +kernel
theorem d_Lw_law_253 : decode b_Lw_law 253 = .ok (.iconst 1, 1) := by decide +kernel
theorem d_Lw_law_254 : decode b_Lw_law 254 = .ok (.iadd, 1) := by decide +kernel
theorem d_Lw_law_255 : decode b_Lw_law 255 = .ok (.iaload, 1) := by decide +kernel
theorem d_Lw_law_256 : decode b_Lw_law 256 = .ok (.invokevirtual 79, 3) := by decide +kernel
theorem d_Lw_law_259 : decode b_Lw_law 259 = .ok (.aload_n 2, 1) := by decide +kernel
theorem d_Lw_law_260 : decode b_Lw_law 260 = .ok (.invokevirtual 64, 3) := by decide +kernel
theorem d_Lw_law_263 : decode b_Lw_law 263 = .ok (.iload 5, 2) := by decide +kernel
theorem d_Lw_law_265 : decode b_Lw_law 265 = .ok (.if_icmp .eq 5, 3) := by decide +kernel
theorem d_Lw_law_268 : decode b_Lw_law 268 = .ok (.iconst 0, 1) := by decide +kernel
theorem d_Lw_law_269 : decode b_Lw_law 269 = .ok (.ireturn, 1) := by decide +kernel
theorem d_Lw_law_270 : decode b_Lw_law 270 = .ok (.goto 435, 3) := by decide +kernel
theorem d_Lw_law_273 : decode b_Lw_law 273 = .ok (.aload_n 1, 1) := by decide +kernel
theorem d_Lw_law_274 : decode b_Lw_law 274 = .ok (.aload_n 0, 1) := by decide +kernel
theorem d_Lw_law_275 : decode b_Lw_law 275 = .ok (.iload 4, 2) := by decide +kernel
theorem d_Lw_law_277 : decode b_Lw_law 277 = .ok (.iconst 1, 1) := by decide +kernel
theorem d_Lw_law_278 : decode b_Lw_law 278 = .ok (.iadd, 1) := by decide +kernel
theorem d_Lw_law_279 : decode b_Lw_law 279 = .ok (.iaload, 1) := by decide +kernel
theorem d_Lw_law_280 : decode b_Lw_law 280 = .ok (.aload_n 3, 1) := by decide +kernel
theorem d_Lw_law_281 : decode b_Lw_law 281 = .ok (.invokestatic 80, 3) := by decide +kernel
theorem d_Lw_law_284 : decode b_Lw_law 284 = .ok (.istore 5, 2) := by decide +kernel
theorem d_Lw_law_286 : decode b_Lw_law 286 = .ok (.aload_n 2, 1) := by decide +kernel
theorem d_Lw_law_287 : decode b_Lw_law 287 = .ok (.aload_n 0, 1) := by decide +kernel
theorem d_Lw_law_288 : decode b_Lw_law 288 = .ok (.iload 4, 2) := by decide +kernel
theorem d_Lw_law_290 : decode b_Lw_law 290 = .ok (.iconst 1, 1) := by decide +kernel
theorem d_Lw_law_291 : decode b_Lw_law 291 = .ok (.iadd, 1) := by decide +kernel
theorem d_Lw_law_292 : decode b_Lw_law 292 = .ok (.iaload, 1) := by decide +kernel
theorem d_Lw_law_293 : decode b_Lw_law 293 = .ok (.invokevirtual 82, 3) := by decide +kernel
theorem d_Lw_law_296 : decode b_Lw_law 296 = .ok (.istore 6, 2) := by decide +kernel
theorem d_Lw_law_298 : decode b_Lw_law 298 = .ok (.aload_n 2, 1) := by decide +kernel
theorem d_Lw_law_299 : decode b_Lw_law 299 = .ok (.invokevirtual 64, 3) := by decide +kernel
theorem d_Lw_law_302 : decode b_Lw_law 302 = .ok (.iload 5, 2) := by decide +kernel
theorem d_Lw_law_304 : decode b_Lw_law 304 = .ok (.if_icmp .eq 5, 3) := by decide +kernel
theorem d_Lw_law_307 : decode b_Lw_law 307 = .ok (.iconst 0, 1) := by decide +kernel
theorem d_Lw_law_308 : decode b_Lw_law 308 = .ok (.ireturn, 1) := by decide +kernel
theorem d_Lw_law_309 : decode b_Lw_law 309 = .ok (.iload 5, 2) := by decide +kernel
theorem d_Lw_law_311 : decode b_Lw_law 311 = .ok (.ifCond .ne 15, 3) := by decide +kernel
theorem d_Lw_law_314 : decode b_Lw_law 314 = .ok (.aload_n 3, 1) := by decide +kernel
theorem d_Lw_law_315 : decode b_Lw_law 315 = .ok (.iconst 0, 1) := by decide +kernel
theorem d_Lw_law_316 : decode b_Lw_law 316 = .ok (.laload, 1) := by decide +kernel
theorem d_Lw_law_317 : decode b_Lw_law 317 = .ok (.iload 6, 2) := by decide +kernel
theorem d_Lw_law_319 : decode b_Lw_law 319 = .ok (.i2l, 1) := by decide +kernel
theorem d_Lw_law_320 : decode b_Lw_law 320 = .ok (.lcmp, 1) := by decide +kernel
theorem d_Lw_law_321 : decode b_Lw_law 321 = .ok (.ifCond .eq 5, 3) := by decide +kernel
theorem d_Lw_law_324 : decode b_Lw_law 324 = .ok (.iconst 0, 1) := by decide +kernel
theorem d_Lw_law_325 : decode b_Lw_law 325 = .ok (.ireturn, 1) := by decide +kernel
theorem d_Lw_law_326 : decode b_Lw_law 326 = .ok (.goto 379, 3) := by decide +kernel
theorem d_Lw_law_329 : decode b_Lw_law 329 = .ok (.aload_n 1, 1) := by decide +kernel
theorem d_Lw_law_330 : decode b_Lw_law 330 = .ok (.aload_n 0, 1) := by decide +kernel
theorem d_Lw_law_331 : decode b_Lw_law 331 = .ok (.iload 4, 2) := by decide +kernel
theorem d_Lw_law_333 : decode b_Lw_law 333 = .ok (.iconst 1, 1) := by decide +kernel
theorem d_Lw_law_334 : decode b_Lw_law 334 = .ok (.iadd, 1) := by decide +kernel
theorem d_Lw_law_335 : decode b_Lw_law 335 = .ok (.iaload, 1) := by decide +kernel
theorem d_Lw_law_336 : decode b_Lw_law 336 = .ok (.aload_n 3, 1) := by decide +kernel
theorem d_Lw_law_337 : decode b_Lw_law 337 = .ok (.invokestatic 83, 3) := by decide +kernel
theorem d_Lw_law_340 : decode b_Lw_law 340 = .ok (.istore 5, 2) := by decide +kernel
theorem d_Lw_law_342 : decode b_Lw_law 342 = .ok (.aload_n 2, 1) := by decide +kernel
theorem d_Lw_law_343 : decode b_Lw_law 343 = .ok (.aload_n 0, 1) := by decide +kernel
theorem d_Lw_law_344 : decode b_Lw_law 344 = .ok (.iload 4, 2) := by decide +kernel
theorem d_Lw_law_346 : decode b_Lw_law 346 = .ok (.iconst 1, 1) := by decide +kernel
theorem d_Lw_law_347 : decode b_Lw_law 347 = .ok (.iadd, 1) := by decide +kernel
theorem d_Lw_law_348 : decode b_Lw_law 348 = .ok (.iaload, 1) := by decide +kernel
theorem d_Lw_law_349 : decode b_Lw_law 349 = .ok (.invokevirtual 85, 3) := by decide +kernel
theorem d_Lw_law_352 : decode b_Lw_law 352 = .ok (.istore 6, 2) := by decide +kernel
theorem d_Lw_law_354 : decode b_Lw_law 354 = .ok (.aload_n 2, 1) := by decide +kernel
theorem d_Lw_law_355 : decode b_Lw_law 355 = .ok (.invokevirtual 64, 3) := by decide +kernel
theorem d_Lw_law_358 : decode b_Lw_law 358 = .ok (.iload 5, 2) := by decide +kernel
theorem d_Lw_law_360 : decode b_Lw_law 360 = .ok (.if_icmp .eq 5, 3) := by decide +kernel
theorem d_Lw_law_363 : decode b_Lw_law 363 = .ok (.iconst 0, 1) := by decide +kernel
theorem d_Lw_law_364 : decode b_Lw_law 364 = .ok (.ireturn, 1) := by decide +kernel
theorem d_Lw_law_365 : decode b_Lw_law 365 = .ok (.iload 5, 2) := by decide +kernel
theorem d_Lw_law_367 : decode b_Lw_law 367 = .ok (.ifCond .ne 15, 3) := by decide +kernel
theorem d_Lw_law_370 : decode b_Lw_law 370 = .ok (.aload_n 3, 1) := by decide +kernel
theorem d_Lw_law_371 : decode b_Lw_law 371 = .ok (.iconst 0, 1) := by decide +kernel
theorem d_Lw_law_372 : decode b_Lw_law 372 = .ok (.laload, 1) := by decide +kernel
theorem d_Lw_law_373 : decode b_Lw_law 373 = .ok (.iload 6, 2) := by decide +kernel
theorem d_Lw_law_375 : decode b_Lw_law 375 = .ok (.i2l, 1) := by decide +kernel
theorem d_Lw_law_376 : decode b_Lw_law 376 = .ok (.lcmp, 1) := by decide +kernel
theorem d_Lw_law_377 : decode b_Lw_law 377 = .ok (.ifCond .eq 5, 3) := by decide +kernel
theorem d_Lw_law_380 : decode b_Lw_law 380 = .ok (.iconst 0, 1) := by decide +kernel
theorem d_Lw_law_381 : decode b_Lw_law 381 = .ok (.ireturn, 1) := by decide +kernel
theorem d_Lw_law_382 : decode b_Lw_law 382 = .ok (.goto 323, 3) := by decide +kernel
end
section
theorem d_Lw_law_385 : decode b_Lw_law 385 = .ok (.aload_n 1, 1) := by decide +kernel
theorem d_Lw_law_386 : decode b_Lw_law 386 = .ok (.aload_n 0, 1) := by decide +kernel
theorem d_Lw_law_387 : decode b_Lw_law 387 = .ok (.iload 4, 2) := by decide +kernel
theorem d_Lw_law_389 : decode b_Lw_law 389 = .ok (.iconst 1, 1) := by decide +kernel
theorem d_Lw_law_390 : decode b_Lw_law 390 = .ok (.iadd, 1) := by decide +kernel
theorem d_Lw_law_391 : decode b_Lw_law 391 = .ok (.iaload, 1) := by decide +kernel
theorem d_Lw_law_392 : decode b_Lw_law 392 = .ok (.aload_n 3, 1) := by decide +kernel
theorem d_Lw_law_393 : decode b_Lw_law 393 = .ok (.invokestatic 86, 3) := by decide +kernel
theorem d_Lw_law_396 : decode b_Lw_law 396 = .ok (.istore 5, 2) := by decide +kernel
theorem d_Lw_law_398 : decode b_Lw_law 398 = .ok (.aload_n 2, 1) := by decide +kernel
theorem d_Lw_law_399 : decode b_Lw_law 399 = .ok (.aload_n 0, 1) := by decide +kernel
theorem d_Lw_law_400 : decode b_Lw_law 400 = .ok (.iload 4, 2) := by decide +kernel
theorem d_Lw_law_402 : decode b_Lw_law 402 = .ok (.iconst 1, 1) := by decide +kernel
theorem d_Lw_law_403 : decode b_Lw_law 403 = .ok (.iadd, 1) := by decide +kernel
theorem d_Lw_law_404 : decode b_Lw_law 404 = .ok (.iaload, 1) := by decide +kernel
theorem d_Lw_law_405 : decode b_Lw_law 405 = .ok (.invokevirtual 88, 3) := by decide +kernel
theorem d_Lw_law_408 : decode b_Lw_law 408 = .ok (.istore 6, 2) := by decide +kernel
theorem d_Lw_law_410 : decode b_Lw_law 410 = .ok (.aload_n 2, 1) := by decide +kernel
theorem d_Lw_law_411 : decode b_Lw_law 411 = .ok (.invokevirtual 64, 3) := by decide +kernel
theorem d_Lw_law_414 : decode b_Lw_law 414 = .ok (.iload 5, 2) := by decide +kernel
theorem d_Lw_law_416 : decode b_Lw_law 416 = .ok (.if_icmp .eq 5, 3) := by decide +kernel
theorem d_Lw_law_419 : decode b_Lw_law 419 = .ok (.iconst 0, 1) := by decide +kernel
theorem d_Lw_law_420 : decode b_Lw_law 420 = .ok (.ireturn, 1) := by decide +kernel
theorem d_Lw_law_421 : decode b_Lw_law 421 = .ok (.iload 5, 2) := by decide +kernel
theorem d_Lw_law_423 : decode b_Lw_law 423 = .ok (.ifCond .ne 15, 3) := by decide +kernel
theorem d_Lw_law_426 : decode b_Lw_law 426 = .ok (.aload_n 3, 1) := by decide +kernel
theorem d_Lw_law_427 : decode b_Lw_law 427 = .ok (.iconst 0, 1) := by decide +kernel
theorem d_Lw_law_428 : decode b_Lw_law 428 = .ok (.laload, 1) := by decide +kernel
theorem d_Lw_law_429 : decode b_Lw_law 429 = .ok (.iload 6, 2) := by decide +kernel
theorem d_Lw_law_431 : decode b_Lw_law 431 = .ok (.i2l, 1) := by decide +kernel
theorem d_Lw_law_432 : decode b_Lw_law 432 = .ok (.lcmp, 1) := by decide +kernel
theorem d_Lw_law_433 : decode b_Lw_law 433 = .ok (.ifCond .eq 5, 3) := by decide +kernel
theorem d_Lw_law_436 : decode b_Lw_law 436 = .ok (.iconst 0, 1) := by decide +kernel
theorem d_Lw_law_437 : decode b_Lw_law 437 = .ok (.ireturn, 1) := by decide +kernel
theorem d_Lw_law_438 : decode b_Lw_law 438 = .ok (.goto 267, 3) := by decide +kernel
theorem d_Lw_law_441 : decode b_Lw_law 441 = .ok (.aload_n 1, 1) := by decide +kernel
theorem d_Lw_law_442 : decode b_Lw_law 442 = .ok (.aload_n 0, 1) := by decide +kernel
theorem d_Lw_law_443 : decode b_Lw_law 443 = .ok (.iload 4, 2) := by decide +kernel
theorem d_Lw_law_445 : decode b_Lw_law 445 = .ok (.iconst 1, 1) := by decide +kernel
theorem d_Lw_law_446 : decode b_Lw_law 446 = .ok (.iadd, 1) := by decide +kernel
theorem d_Lw_law_447 : decode b_Lw_law 447 = .ok (.iaload, 1) := by decide +kernel
theorem d_Lw_law_448 : decode b_Lw_law 448 = .ok (.ifCond .eq 7, 3) := by decide +kernel
theorem d_Lw_law_451 : decode b_Lw_law 451 = .ok (.iconst 1, 1) := by decide +kernel
theorem d_Lw_law_452 : decode b_Lw_law 452 = .ok (.goto 4, 3) := by decide +kernel
theorem d_Lw_law_455 : decode b_Lw_law 455 = .ok (.iconst 0, 1) := by decide +kernel
theorem d_Lw_law_456 : decode b_Lw_law 456 = .ok (.aload_n 0, 1) := by decide +kernel
theorem d_Lw_law_457 : decode b_Lw_law 457 = .ok (.iload 4, 2) := by decide +kernel
theorem d_Lw_law_459 : decode b_Lw_law 459 = .ok (.iconst 2, 1) := by decide +kernel
theorem d_Lw_law_460 : decode b_Lw_law 460 = .ok (.iadd, 1) := by decide +kernel
theorem d_Lw_law_461 : decode b_Lw_law 461 = .ok (.iaload, 1) := by decide +kernel
theorem d_Lw_law_462 : decode b_Lw_law 462 = .ok (.aload_n 3, 1) := by decide +kernel
theorem d_Lw_law_463 : decode b_Lw_law 463 = .ok (.invokestatic 89, 3) := by decide +kernel
theorem d_Lw_law_466 : decode b_Lw_law 466 = .ok (.istore 5, 2) := by decide +kernel
theorem d_Lw_law_468 : decode b_Lw_law 468 = .ok (.aload_n 2, 1) := by decide +kernel
theorem d_Lw_law_469 : decode b_Lw_law 469 = .ok (.aload_n 0, 1) := by decide +kernel
theorem d_Lw_law_470 : decode b_Lw_law 470 = .ok (.iload 4, 2) := by decide +kernel
theorem d_Lw_law_472 : decode b_Lw_law 472 = .ok (.iconst 1, 1) := by decide +kernel
theorem d_Lw_law_473 : decode b_Lw_law 473 = .ok (.iadd, 1) := by decide +kernel
theorem d_Lw_law_474 : decode b_Lw_law 474 = .ok (.iaload, 1) := by decide +kernel
theorem d_Lw_law_475 : decode b_Lw_law 475 = .ok (.ifCond .eq 7, 3) := by decide +kernel
theorem d_Lw_law_478 : decode b_Lw_law 478 = .ok (.iconst 1, 1) := by decide +kernel
theorem d_Lw_law_479 : decode b_Lw_law 479 = .ok (.goto 4, 3) := by decide +kernel
theorem d_Lw_law_482 : decode b_Lw_law 482 = .ok (.iconst 0, 1) := by decide +kernel
theorem d_Lw_law_483 : decode b_Lw_law 483 = .ok (.aload_n 0, 1) := by decide +kernel
theorem d_Lw_law_484 : decode b_Lw_law 484 = .ok (.iload 4, 2) := by decide +kernel
theorem d_Lw_law_486 : decode b_Lw_law 486 = .ok (.iconst 2, 1) := by decide +kernel
theorem d_Lw_law_487 : decode b_Lw_law 487 = .ok (.iadd, 1) := by decide +kernel
theorem d_Lw_law_488 : decode b_Lw_law 488 = .ok (.iaload, 1) := by decide +kernel
theorem d_Lw_law_489 : decode b_Lw_law 489 = .ok (.invokevirtual 92, 3) := by decide +kernel
theorem d_Lw_law_492 : decode b_Lw_law 492 = .ok (.istore 6, 2) := by decide +kernel
theorem d_Lw_law_494 : decode b_Lw_law 494 = .ok (.aload_n 2, 1) := by decide +kernel
theorem d_Lw_law_495 : decode b_Lw_law 495 = .ok (.invokevirtual 64, 3) := by decide +kernel
theorem d_Lw_law_498 : decode b_Lw_law 498 = .ok (.iload 5, 2) := by decide +kernel
theorem d_Lw_law_500 : decode b_Lw_law 500 = .ok (.if_icmp .eq 5, 3) := by decide +kernel
theorem d_Lw_law_503 : decode b_Lw_law 503 = .ok (.iconst 0, 1) := by decide +kernel
theorem d_Lw_law_504 : decode b_Lw_law 504 = .ok (.ireturn, 1) := by decide +kernel
theorem d_Lw_law_505 : decode b_Lw_law 505 = .ok (.iload 5, 2) := by decide +kernel
theorem d_Lw_law_507 : decode b_Lw_law 507 = .ok (.ifCond .ne 15, 3) := by decide +kernel
theorem d_Lw_law_510 : decode b_Lw_law 510 = .ok (.aload_n 3, 1) := by decide +kernel
theorem d_Lw_law_511 : decode b_Lw_law 511 = .ok (.iconst 0, 1) := by decide +kernel
theorem d_Lw_law_512 : decode b_Lw_law 512 = .ok (.laload, 1) := by decide +kernel
theorem d_Lw_law_513 : decode b_Lw_law 513 = .ok (.iload 6, 2) := by decide +kernel
theorem d_Lw_law_515 : decode b_Lw_law 515 = .ok (.i2l, 1) := by decide +kernel
theorem d_Lw_law_516 : decode b_Lw_law 516 = .ok (.lcmp, 1) := by decide +kernel
theorem d_Lw_law_517 : decode b_Lw_law 517 = .ok (.ifCond .eq 5, 3) := by decide +kernel
theorem d_Lw_law_520 : decode b_Lw_law 520 = .ok (.iconst 0, 1) := by decide +kernel
theorem d_Lw_law_521 : decode b_Lw_law 521 = .ok (.ireturn, 1) := by decide +kernel
theorem d_Lw_law_522 : decode b_Lw_law 522 = .ok (.goto 183, 3) := by decide +kernel
theorem d_Lw_law_525 : decode b_Lw_law 525 = .ok (.aload_n 1, 1) := by decide +kernel
theorem d_Lw_law_526 : decode b_Lw_law 526 = .ok (.aload_n 0, 1) := by decide +kernel
theorem d_Lw_law_527 : decode b_Lw_law 527 = .ok (.iload 4, 2) := by decide +kernel
theorem d_Lw_law_529 : decode b_Lw_law 529 = .ok (.iconst 1, 1) := by decide +kernel
theorem d_Lw_law_530 : decode b_Lw_law 530 = .ok (.iadd, 1) := by decide +kernel
theorem d_Lw_law_531 : decode b_Lw_law 531 = .ok (.iaload, 1) := by decide +kernel
theorem d_Lw_law_532 : decode b_Lw_law 532 = .ok (.aload_n 3, 1) := by decide +kernel
theorem d_Lw_law_533 : decode b_Lw_law 533 = .ok (.invokestatic 93, 3) := by decide +kernel
theorem d_Lw_law_536 : decode b_Lw_law 536 = .ok (.istore 5, 2) := by decide +kernel
theorem d_Lw_law_538 : decode b_Lw_law 538 = .ok (.aload_n 2, 1) := by decide +kernel
theorem d_Lw_law_539 : decode b_Lw_law 539 = .ok (.aload_n 0, 1) := by decide +kernel
theorem d_Lw_law_540 : decode b_Lw_law 540 = .ok (.iload 4, 2) := by decide +kernel
theorem d_Lw_law_542 : decode b_Lw_law 542 = .ok (.iconst 1, 1) := by decide +kernel
theorem d_Lw_law_543 : decode b_Lw_law 543 = .ok (.iadd, 1) := by decide +kernel
theorem d_Lw_law_544 : decode b_Lw_law 544 = .ok (.iaload, 1) := by decide +kernel
theorem d_Lw_law_545 : decode b_Lw_law 545 = .ok (.invokevirtual 95, 3) := by decide +kernel
theorem d_Lw_law_548 : decode b_Lw_law 548 = .ok (.istore 6, 2) := by decide +kernel
theorem d_Lw_law_550 : decode b_Lw_law 550 = .ok (.aload_n 2, 1) := by decide +kernel
theorem d_Lw_law_551 : decode b_Lw_law 551 = .ok (.invokevirtual 64, 3) := by decide +kernel
theorem d_Lw_law_554 : decode b_Lw_law 554 = .ok (.iload 5, 2) := by decide +kernel
theorem d_Lw_law_556 : decode b_Lw_law 556 = .ok (.if_icmp .eq 5, 3) := by decide +kernel
theorem d_Lw_law_559 : decode b_Lw_law 559 = .ok (.iconst 0, 1) := by decide +kernel
theorem d_Lw_law_560 : decode b_Lw_law 560 = .ok (.ireturn, 1) := by decide +kernel
theorem d_Lw_law_561 : decode b_Lw_law 561 = .ok (.iload 5, 2) := by decide +kernel
theorem d_Lw_law_563 : decode b_Lw_law 563 = .ok (.ifCond .ne 15, 3) := by decide +kernel
theorem d_Lw_law_566 : decode b_Lw_law 566 = .ok (.aload_n 3, 1) := by decide +kernel
theorem d_Lw_law_567 : decode b_Lw_law 567 = .ok (.iconst 0, 1) := by decide +kernel
theorem d_Lw_law_568 : decode b_Lw_law 568 = .ok (.laload, 1) := by decide +kernel
theorem d_Lw_law_569 : decode b_Lw_law 569 = .ok (.iload 6, 2) := by decide +kernel
theorem d_Lw_law_571 : decode b_Lw_law 571 = .ok (.i2l, 1) := by decide +kernel
theorem d_Lw_law_572 : decode b_Lw_law 572 = .ok (.lcmp, 1) := by decide +kernel
theorem d_Lw_law_573 : decode b_Lw_law 573 = .ok (.ifCond .eq 5, 3) := by decide +kernel
theorem d_Lw_law_576 : decode b_Lw_law 576 = .ok (.iconst 0, 1) := by decide +kernel
theorem d_Lw_law_577 : decode b_Lw_law 577 = .ok (.ireturn, 1) := by decide +kernel
theorem d_Lw_law_578 : decode b_Lw_law 578 = .ok (.goto 127, 3) := by decide +kernel
theorem d_Lw_law_581 : decode b_Lw_law 581 = .ok (.aload_n 1, 1) := by decide +kernel
theorem d_Lw_law_582 : decode b_Lw_law 582 = .ok (.aload_n 0, 1) := by decide +kernel
theorem d_Lw_law_583 : decode b_Lw_law 583 = .ok (.iload 4, 2) := by decide +kernel
theorem d_Lw_law_585 : decode b_Lw_law 585 = .ok (.iconst 1, 1) := by decide +kernel
theorem d_Lw_law_586 : decode b_Lw_law 586 = .ok (.iadd, 1) := by decide +kernel
theorem d_Lw_law_587 : decode b_Lw_law 587 = .ok (.iaload, 1) := by decide +kernel
theorem d_Lw_law_588 : decode b_Lw_law 588 = .ok (.aload_n 3, 1) := by decide +kernel
theorem d_Lw_law_589 : decode b_Lw_law 589 = .ok (.invokestatic 96, 3) := by decide +kernel
theorem d_Lw_law_592 : decode b_Lw_law 592 = .ok (.istore 5, 2) := by decide +kernel
theorem d_Lw_law_594 : decode b_Lw_law 594 = .ok (.aload_n 2, 1) := by decide +kernel
theorem d_Lw_law_595 : decode b_Lw_law 595 = .ok (.aload_n 0, 1) := by decide +kernel
theorem d_Lw_law_596 : decode b_Lw_law 596 = .ok (.iload 4, 2) := by decide +kernel
theorem d_Lw_law_598 : decode b_Lw_law 598 = .ok (.iconst 1, 1) := by decide +kernel
theorem d_Lw_law_599 : decode b_Lw_law 599 = .ok (.iadd, 1) := by decide +kernel
theorem d_Lw_law_600 : decode b_Lw_law 600 = .ok (.iaload, 1) := by decide +kernel
theorem d_Lw_law_601 : decode b_Lw_law 601 = .ok (.invokevirtual 98, 3) := by decide +kernel
theorem d_Lw_law_604 : decode b_Lw_law 604 = .ok (.istore 6, 2) := by decide +kernel
theorem d_Lw_law_606 : decode b_Lw_law 606 = .ok (.aload_n 2, 1) := by decide +kernel
theorem d_Lw_law_607 : decode b_Lw_law 607 = .ok (.invokevirtual 64, 3) := by decide +kernel
theorem d_Lw_law_610 : decode b_Lw_law 610 = .ok (.iload 5, 2) := by decide +kernel
theorem d_Lw_law_612 : decode b_Lw_law 612 = .ok (.if_icmp .eq 5, 3) := by decide +kernel
theorem d_Lw_law_615 : decode b_Lw_law 615 = .ok (.iconst 0, 1) := by decide +kernel
theorem d_Lw_law_616 : decode b_Lw_law 616 = .ok (.ireturn, 1) := by decide +kernel
theorem d_Lw_law_617 : decode b_Lw_law 617 = .ok (.iload 5, 2) := by decide +kernel
theorem d_Lw_law_619 : decode b_Lw_law 619 = .ok (.ifCond .ne 15, 3) := by decide +kernel
theorem d_Lw_law_622 : decode b_Lw_law 622 = .ok (.aload_n 3, 1) := by decide +kernel
theorem d_Lw_law_623 : decode b_Lw_law 623 = .ok (.iconst 0, 1) := by decide +kernel
theorem d_Lw_law_624 : decode b_Lw_law 624 = .ok (.laload, 1) := by decide +kernel
theorem d_Lw_law_625 : decode b_Lw_law 625 = .ok (.iload 6, 2) := by decide +kernel
theorem d_Lw_law_627 : decode b_Lw_law 627 = .ok (.i2l, 1) := by decide +kernel
theorem d_Lw_law_628 : decode b_Lw_law 628 = .ok (.lcmp, 1) := by decide +kernel
theorem d_Lw_law_629 : decode b_Lw_law 629 = .ok (.ifCond .eq 5, 3) := by decide +kernel
theorem d_Lw_law_632 : decode b_Lw_law 632 = .ok (.iconst 0, 1) := by decide +kernel
theorem d_Lw_law_633 : decode b_Lw_law 633 = .ok (.ireturn, 1) := by decide +kernel
theorem d_Lw_law_634 : decode b_Lw_law 634 = .ok (.goto 71, 3) := by decide +kernel
theorem d_Lw_law_637 : decode b_Lw_law 637 = .ok (.aload_n 1, 1) := by decide +kernel
theorem d_Lw_law_638 : decode b_Lw_law 638 = .ok (.aload_n 0, 1) := by decide +kernel
theorem d_Lw_law_639 : decode b_Lw_law 639 = .ok (.iload 4, 2) := by decide +kernel
theorem d_Lw_law_641 : decode b_Lw_law 641 = .ok (.iconst 1, 1) := by decide +kernel
theorem d_Lw_law_642 : decode b_Lw_law 642 = .ok (.iadd, 1) := by decide +kernel
theorem d_Lw_law_643 : decode b_Lw_law 643 = .ok (.iaload, 1) := by decide +kernel
theorem d_Lw_law_644 : decode b_Lw_law 644 = .ok (.aload_n 3, 1) := by decide +kernel
theorem d_Lw_law_645 : decode b_Lw_law 645 = .ok (.invokestatic 99, 3) := by decide +kernel
theorem d_Lw_law_648 : decode b_Lw_law 648 = .ok (.istore 5, 2) := by decide +kernel
theorem d_Lw_law_650 : decode b_Lw_law 650 = .ok (.aload_n 2, 1) := by decide +kernel
theorem d_Lw_law_651 : decode b_Lw_law 651 = .ok (.aload_n 0, 1) := by decide +kernel
theorem d_Lw_law_652 : decode b_Lw_law 652 = .ok (.iload 4, 2) := by decide +kernel
theorem d_Lw_law_654 : decode b_Lw_law 654 = .ok (.iconst 1, 1) := by decide +kernel
theorem d_Lw_law_655 : decode b_Lw_law 655 = .ok (.iadd, 1) := by decide +kernel
theorem d_Lw_law_656 : decode b_Lw_law 656 = .ok (.iaload, 1) := by decide +kernel
theorem d_Lw_law_657 : decode b_Lw_law 657 = .ok (.invokevirtual 101, 3) := by decide +kernel
theorem d_Lw_law_660 : decode b_Lw_law 660 = .ok (.lstore 6, 2) := by decide +kernel
theorem d_Lw_law_662 : decode b_Lw_law 662 = .ok (.aload_n 2, 1) := by decide +kernel
theorem d_Lw_law_663 : decode b_Lw_law 663 = .ok (.invokevirtual 64, 3) := by decide +kernel
theorem d_Lw_law_666 : decode b_Lw_law 666 = .ok (.iload 5, 2) := by decide +kernel
theorem d_Lw_law_668 : decode b_Lw_law 668 = .ok (.if_icmp .eq 5, 3) := by decide +kernel
theorem d_Lw_law_671 : decode b_Lw_law 671 = .ok (.iconst 0, 1) := by decide +kernel
theorem d_Lw_law_672 : decode b_Lw_law 672 = .ok (.ireturn, 1) := by decide +kernel
theorem d_Lw_law_673 : decode b_Lw_law 673 = .ok (.iload 5, 2) := by decide +kernel
theorem d_Lw_law_675 : decode b_Lw_law 675 = .ok (.ifCond .ne 14, 3) := by decide +kernel
theorem d_Lw_law_678 : decode b_Lw_law 678 = .ok (.aload_n 3, 1) := by decide +kernel
theorem d_Lw_law_679 : decode b_Lw_law 679 = .ok (.iconst 0, 1) := by decide +kernel
theorem d_Lw_law_680 : decode b_Lw_law 680 = .ok (.laload, 1) := by decide +kernel
theorem d_Lw_law_681 : decode b_Lw_law 681 = .ok (.lload 6, 2) := by decide +kernel
theorem d_Lw_law_683 : decode b_Lw_law 683 = .ok (.lcmp, 1) := by decide +kernel
theorem d_Lw_law_684 : decode b_Lw_law 684 = .ok (.ifCond .eq 5, 3) := by decide +kernel
theorem d_Lw_law_687 : decode b_Lw_law 687 = .ok (.iconst 0, 1) := by decide +kernel
theorem d_Lw_law_688 : decode b_Lw_law 688 = .ok (.ireturn, 1) := by decide +kernel
theorem d_Lw_law_689 : decode b_Lw_law 689 = .ok (.goto 16, 3) := by decide +kernel
theorem d_Lw_law_692 : decode b_Lw_law 692 = .ok (.aload_n 1, 1) := by decide +kernel
theorem d_Lw_law_693 : decode b_Lw_law 693 = .ok (.invokevirtual 102, 3) := by decide +kernel
theorem d_Lw_law_696 : decode b_Lw_law 696 = .ok (.aload_n 2, 1) := by decide +kernel
theorem d_Lw_law_697 : decode b_Lw_law 697 = .ok (.invokevirtual 105, 3) := by decide +kernel
theorem d_Lw_law_700 : decode b_Lw_law 700 = .ok (.if_icmp .eq 5, 3) := by decide +kernel
theorem d_Lw_law_703 : decode b_Lw_law 703 = .ok (.iconst 0, 1) := by decide +kernel
theorem d_Lw_law_704 : decode b_Lw_law 704 = .ok (.ireturn, 1) := by decide +kernel
theorem d_Lw_law_705 : decode b_Lw_law 705 = .ok (.iinc 4 3, 3) := by decide +kernel
theorem d_Lw_law_708 : decode b_Lw_law 708 = .ok (.goto (-685), 3) := by decide +kernel
theorem d_Lw_law_711 : decode b_Lw_law 711 = .ok (.iconst 1, 1) := by decide +kernel
theorem d_Lw_law_712 : decode b_Lw_law 712 = .ok (.ireturn, 1) := by decide +kernel
end
section
/-! Mixed radix states, one step of builder 3, the greatest set of safe states, schedules. -/
/-- the weight of digit k -/
def pw_w (sp : Nat → Nat) : Nat → Nat
  | 0 => 1
  | k + 1 => pw_w sp k * sp k
/-- digit k of a state -/
def pw_dg (sp : Nat → Nat) (s k : Nat) : Nat := s / pw_w sp k % sp k
/-- the state with these digits -/
def pw_en (sp d : Nat → Nat) : Nat → Nat
  | 0 => 0
  | k + 1 => pw_en sp d k + d k * pw_w sp k
/-- the sum of the weights -/
def pw_sw (sp : Nat → Nat) : Nat → Nat
  | 0 => 0
  | k + 1 => pw_sw sp k + pw_w sp k
theorem pw_w_pos {sp : Nat → Nat} {K : Nat} (h : ∀ k, k < K → 0 < sp k) : 0 < pw_w sp K := by
  induction K with
  | zero => exact Nat.one_pos
  | succ K ih => exact Nat.mul_pos (ih fun k hk => h k (Nat.lt_succ_of_lt hk)) (h K (Nat.lt_succ_self K))
theorem pw_w_pos' {sp : Nat → Nat} {K k : Nat} (h : ∀ k, k < K → 0 < sp k) (hk : k ≤ K) : 0 < pw_w sp k := pw_w_pos fun j hj => h j (Nat.lt_of_lt_of_le hj hk)
theorem pw_w_dvd {sp : Nat → Nat} {K k : Nat} (hk : k < K) : pw_w sp k * sp k ∣ pw_w sp K := by
  induction K with
  | zero => exact absurd hk (Nat.not_lt_zero _)
  | succ K ih =>
    by_cases h : k = K
    · subst h; exact Nat.dvd_refl _
    · exact Nat.dvd_trans (ih (by omega)) (Nat.dvd_mul_right _ _)
theorem pw_en_lt {sp d : Nat → Nat} {K : Nat} (h : ∀ k, k < K → d k < sp k) : pw_en sp d K < pw_w sp K := by
  induction K with
  | zero => exact Nat.one_pos
  | succ K ih =>
    have h1 := ih fun k hk => h k (Nat.lt_succ_of_lt hk)
    have h2 : (d K + 1) * pw_w sp K ≤ sp K * pw_w sp K := Nat.mul_le_mul_right _ (h K (Nat.lt_succ_self K))
    have h3 : (d K + 1) * pw_w sp K = d K * pw_w sp K + pw_w sp K := Nat.succ_mul _ _
    have h4 : pw_w sp K * sp K = sp K * pw_w sp K := Nat.mul_comm _ _
    show pw_en sp d K + d K * pw_w sp K < pw_w sp K * sp K
    omega
theorem pw_dg_lt {sp : Nat → Nat} {s k : Nat} (h : 0 < sp k) : pw_dg sp s k < sp k := Nat.mod_lt _ h
theorem pw_dg_en {sp d : Nat → Nat} {K : Nat} (h : ∀ k, k < K → d k < sp k) : ∀ k, k < K → pw_dg sp (pw_en sp d K) k = d k := by
  induction K with
  | zero => intro k hk; exact absurd hk (Nat.not_lt_zero _)
  | succ K ih =>
    intro k hk
    have hp : 0 < pw_w sp K := pw_w_pos fun j hj => Nat.lt_of_le_of_lt (Nat.zero_le _) (h j (Nat.lt_succ_of_lt hj))
    have hlt := pw_en_lt (sp := sp) (d := d) (K := K) fun j hj => h j (Nat.lt_succ_of_lt hj)
    by_cases hkK : k = K
    · subst hkK
      show (pw_en sp d k + d k * pw_w sp k) / pw_w sp k % sp k = d k
      rw [Nat.add_mul_div_right _ _ hp, Nat.div_eq_of_lt hlt, Nat.zero_add, Nat.mod_eq_of_lt (h k hk)]
    · have hk' : k < K := by omega
      rw [← ih (fun j hj => h j (Nat.lt_succ_of_lt hj)) k hk']
      show (pw_en sp d K + d K * pw_w sp K) / pw_w sp k % sp k = pw_en sp d K / pw_w sp k % sp k
      obtain ⟨z, hz⟩ := pw_w_dvd (sp := sp) hk'
      have hpk : 0 < pw_w sp k := pw_w_pos fun j hj => Nat.lt_of_le_of_lt (Nat.zero_le _) (h j (by omega))
      have e1 : d K * pw_w sp K = (d K * z * sp k) * pw_w sp k := by
        rw [hz]; simp only [Nat.mul_comm, Nat.mul_left_comm, Nat.mul_assoc]
      rw [e1, Nat.add_mul_div_right _ _ hpk, Nat.add_mul_mod_self_right]
theorem pw_en_dg (sp : Nat → Nat) (s : Nat) : ∀ K, pw_en sp (pw_dg sp s) K = s % pw_w sp K := by
  intro K
  induction K with
  | zero => show 0 = s % 1; omega
  | succ K ih =>
    show pw_en sp (pw_dg sp s) K + pw_dg sp s K * pw_w sp K = s % (pw_w sp K * sp K)
    rw [ih, Nat.mod_mul, Nat.mul_comm (pw_dg sp s K)]
    rfl
theorem pw_en_dg' {sp : Nat → Nat} {s K : Nat} (h : s < pw_w sp K) : pw_en sp (pw_dg sp s) K = s := by rw [pw_en_dg, Nat.mod_eq_of_lt h]
theorem pw_en_congr {sp d d' : Nat → Nat} {K : Nat} (h : ∀ k, k < K → d k = d' k) : pw_en sp d K = pw_en sp d' K := by
  induction K with
  | zero => rfl
  | succ K ih =>
    show pw_en sp d K + d K * pw_w sp K = pw_en sp d' K + d' K * pw_w sp K
    rw [ih fun k hk => h k (Nat.lt_succ_of_lt hk), h K (Nat.lt_succ_self K)]
/-- all others have a slot left -/
def pw_ok (K : Nat) (sp : Nat → Nat) (s t : Nat) : Prop := ∀ k, k < K → k ≠ t → pw_dg sp s k ≠ 0
/-- the digits behind a service of t -/
def pw_nd (sp : Nat → Nat) (s t : Nat) : Nat → Nat := fun k => if k = t then sp k - 1 else pw_dg sp s k - 1
/-- the state behind a service of t -/
def pw_nx (K : Nat) (sp : Nat → Nat) (s t : Nat) : Nat := pw_en sp (pw_nd sp s t) K
theorem pw_nd_lt {K : Nat} {sp : Nat → Nat} (hsp : ∀ k, k < K → 0 < sp k) (s t : Nat) : ∀ k, k < K → pw_nd sp s t k < sp k := by
  intro k hk
  have h1 := hsp k hk
  have h2 := pw_dg_lt (sp := sp) (s := s) h1
  unfold pw_nd
  split <;> omega
theorem pw_nx_lt {K : Nat} {sp : Nat → Nat} (hsp : ∀ k, k < K → 0 < sp k) (s t : Nat) : pw_nx K sp s t < pw_w sp K := pw_en_lt (pw_nd_lt hsp s t)
theorem pw_dg_nx {K : Nat} {sp : Nat → Nat} (hsp : ∀ k, k < K → 0 < sp k) (s t : Nat) : ∀ k, k < K → pw_dg sp (pw_nx K sp s t) k = pw_nd sp s t k := pw_dg_en (pw_nd_lt hsp s t)
theorem pw_ext {K : Nat} {sp : Nat → Nat} {s s' : Nat} (h : s < pw_w sp K) (h' : s' < pw_w sp K) (hd : ∀ k, k < K → pw_dg sp s k = pw_dg sp s' k) : s = s' := by
  rw [← pw_en_dg' h, ← pw_en_dg' h', pw_en_congr hd]
/-- another way to count the next state -/
theorem pw_nx_sum {K : Nat} {sp : Nat → Nat} {s t : Nat} (hsp : ∀ k, k < K → 0 < sp k) (ht : t < K) (hs : s < pw_w sp K) (hok : pw_ok K sp s t) :
    pw_nx K sp s t + pw_sw sp K = s + pw_w sp t * (sp t - pw_dg sp s t) := by
  have key : ∀ n, n ≤ K → pw_en sp (pw_nd sp s t) n + pw_sw sp n = pw_en sp (pw_dg sp s) n + (if t < n then pw_w sp t * (sp t - pw_dg sp s t) else 0) := by
    intro n
    induction n with
    | zero => intro _; simp [pw_en, pw_sw]
    | succ n ih =>
      intro hn
      have h1 := ih (by omega)
      show pw_en sp (pw_nd sp s t) n + pw_nd sp s t n * pw_w sp n + (pw_sw sp n + pw_w sp n) = pw_en sp (pw_dg sp s) n + pw_dg sp s n * pw_w sp n + _
      by_cases hnt : n = t
      · subst hnt
        have h2 := pw_dg_lt (sp := sp) (s := s) (hsp n ht)
        have h3 : pw_nd sp s n n = sp n - 1 := by simp [pw_nd]
        rw [if_neg (Nat.lt_irrefl n)] at h1
        rw [if_pos (Nat.lt_succ_self n), h3]
        have h4 : (sp n - 1) * pw_w sp n + pw_w sp n = sp n * pw_w sp n := by
          rw [← Nat.succ_mul]; congr 1; omega
        have h5 : pw_dg sp s n * pw_w sp n + pw_w sp n * (sp n - pw_dg sp s n) = sp n * pw_w sp n := by
          rw [Nat.mul_comm (pw_w sp n), ← Nat.add_mul]; congr 1; omega
        omega
      · have h2 := hok n (by omega) hnt
        have h3 : pw_nd sp s t n = pw_dg sp s n - 1 := by simp [pw_nd, hnt]
        have h4 : (pw_dg sp s n - 1) * pw_w sp n + pw_w sp n = pw_dg sp s n * pw_w sp n := by
          rw [← Nat.succ_mul]; congr 1; omega
        have h6 : (if t < n + 1 then pw_w sp t * (sp t - pw_dg sp s t) else 0) = (if t < n then pw_w sp t * (sp t - pw_dg sp s t) else 0) := by
          by_cases h7 : t < n
          · rw [if_pos h7, if_pos (by omega)]
          · rw [if_neg h7, if_neg (by omega)]
        rw [h3, h6]
        omega
  have h := key K (Nat.le_refl K)
  rw [if_pos ht, pw_en_dg' hs] at h
  exact h
/-- it can go on without end -/
def pw_safe (K : Nat) (sp : Nat → Nat) (s : Nat) : Prop := ∃ X : Nat → Prop, X s ∧ ∀ s, X s → s < pw_w sp K ∧ ∃ t, t < K ∧ pw_ok K sp s t ∧ X (pw_nx K sp s t)
theorem pw_safe_step {K : Nat} {sp : Nat → Nat} {s : Nat} (h : pw_safe K sp s) : s < pw_w sp K ∧ ∃ t, t < K ∧ pw_ok K sp s t ∧ pw_safe K sp (pw_nx K sp s t) := by
  obtain ⟨X, h1, h2⟩ := h
  obtain ⟨h3, t, h4, h5, h6⟩ := h2 s h1
  exact ⟨h3, t, h4, h5, X, h6, h2⟩
/-- the state of the full spans -/
theorem pw_full {K : Nat} {sp : Nat → Nat} (hsp : ∀ k, k < K → 0 < sp k) : pw_w sp K - 1 < pw_w sp K ∧ ∀ k, k < K → pw_dg sp (pw_w sp K - 1) k = sp k - 1 := by
  have hd : ∀ k, k < K → sp k - 1 < sp k := fun k hk => by have := hsp k hk; omega
  have key : ∀ n, n ≤ K → pw_en sp (fun k => sp k - 1) n + 1 = pw_w sp n := by
    intro n
    induction n with
    | zero => intro _; rfl
    | succ n ih =>
      intro hn
      have h1 := ih (by omega)
      have h2 := hsp n (by omega)
      show pw_en sp (fun k => sp k - 1) n + (sp n - 1) * pw_w sp n + 1 = pw_w sp n * sp n
      have h3 : (sp n - 1) * pw_w sp n + pw_w sp n = pw_w sp n * sp n := by
        rw [← Nat.succ_mul, Nat.mul_comm]; congr 1; omega
      omega
  have h := key K (Nat.le_refl K)
  have e : pw_w sp K - 1 = pw_en sp (fun k => sp k - 1) K := by omega
  exact ⟨by omega, fun k hk => by rw [e]; exact pw_dg_en hd k hk⟩
/-- a schedule: slot after slot who is served; each client within its span -/
def pw_sched (K : Nat) (id sp : Nat → Nat) : Prop := ∃ f : Nat → Nat, ∀ k, k < K → ∀ t, ∃ d, d < sp k ∧ f (t + d) = id k
theorem pw_safe_sched {K : Nat} {id sp : Nat → Nat} (hsp : ∀ k, k < K → 0 < sp k) (h : pw_safe K sp (pw_w sp K - 1)) : pw_sched K id sp := by
  have ch : ∀ s : {s // pw_safe K sp s}, ∃ t, t < K ∧ pw_ok K sp s.1 t ∧ pw_safe K sp (pw_nx K sp s.1 t) := fun s => (pw_safe_step s.2).2
  have hc : ∃ g : {s // pw_safe K sp s} → Nat, ∀ s, g s < K ∧ pw_ok K sp s.1 (g s) ∧ pw_safe K sp (pw_nx K sp s.1 (g s)) := ⟨fun s => Classical.choose (ch s), fun s => Classical.choose_spec (ch s)⟩
  obtain ⟨g, hg⟩ := hc
  let st : Nat → {s // pw_safe K sp s} := fun n => Nat.rec ⟨_, h⟩ (fun _ s => ⟨pw_nx K sp s.1 (g s), (hg s).2.2⟩) n
  have hst : ∀ n, (st (n + 1)).1 = pw_nx K sp (st n).1 (g (st n)) := fun n => rfl
  refine ⟨fun n => id (g (st n)), fun k hk => ?_⟩
  have key : ∀ v t, pw_dg sp (st t).1 k = v → ∃ d, d ≤ v ∧ g (st (t + d)) = k := by
    intro v
    induction v with
    | zero =>
      intro t hv
      refine ⟨0, Nat.le_refl 0, ?_⟩
      have h1 := (hg (st t)).2.1 k hk
      by_cases h2 : k = g (st t)
      · exact h2.symm
      · exact absurd hv (h1 h2)
    | succ v ih =>
      intro t hv
      by_cases h2 : k = g (st t)
      · exact ⟨0, Nat.zero_le _, h2.symm⟩
      · have h3 : pw_dg sp (st (t + 1)).1 k = v := by
          rw [hst, pw_dg_nx hsp _ _ k hk]
          simp only [pw_nd, if_neg h2, hv]
          omega
        obtain ⟨d, hd, e⟩ := ih (t + 1) h3
        exact ⟨d + 1, by omega, by rw [show t + (d + 1) = t + 1 + d by omega]; exact e⟩
  intro t
  obtain ⟨d, hd, e⟩ := key _ t rfl
  have h4 := pw_dg_lt (sp := sp) (s := (st t).1) (hsp k hk)
  exact ⟨d, by omega, by show id (g (st (t + d))) = id k; rw [e]⟩
theorem pw_sched_safe {K : Nat} {id sp : Nat → Nat} (hK : 0 < K) (hsp : ∀ k, k < K → 0 < sp k) (hid : ∀ i j, i < K → j < K → id i = id j → i = j) (h : pw_sched K id sp) : pw_safe K sp (pw_w sp K - 1) := by
  obtain ⟨f, hf⟩ := h
  refine ⟨fun s => s < pw_w sp K ∧ ∃ t, ∀ k, k < K → ∃ d, d ≤ pw_dg sp s k ∧ f (t + d) = id k, ⟨(pw_full hsp).1, 0, fun k hk => ?_⟩, ?_⟩
  · obtain ⟨d, hd, e⟩ := hf k hk 0
    rw [(pw_full hsp).2 k hk]
    exact ⟨d, by omega, e⟩
  · intro s ⟨hs, t, ht⟩
    refine ⟨hs, ?_⟩
    have go : ∀ q, q < K → (∀ k, k < K → k ≠ q → f t ≠ id k) → q < K ∧ pw_ok K sp s q ∧ (pw_nx K sp s q < pw_w sp K ∧ ∃ t', ∀ k, k < K → ∃ d, d ≤ pw_dg sp (pw_nx K sp s q) k ∧ f (t' + d) = id k) := by
      intro q hq hne
      refine ⟨hq, fun k hk hkq h0 => ?_, pw_nx_lt hsp _ _, t + 1, fun k hk => ?_⟩
      · obtain ⟨d, hd, e⟩ := ht k hk
        have hd0 : d = 0 := by omega
        subst hd0
        exact hne k hk hkq e
      · rw [pw_dg_nx hsp _ _ k hk]
        by_cases hkq : k = q
        · subst hkq
          obtain ⟨d, hd, e⟩ := hf k hk (t + 1)
          refine ⟨d, ?_, e⟩
          simp only [pw_nd, if_true]
          omega
        · obtain ⟨d, hd, e⟩ := ht k hk
          have hd0 : d ≠ 0 := fun z => by subst z; exact hne k hk hkq e
          refine ⟨d - 1, ?_, ?_⟩
          · simp only [pw_nd, if_neg hkq]; omega
          · rw [← e]; congr 1; omega
    by_cases hx : ∃ q, q < K ∧ f t = id q
    · obtain ⟨q, hq, e⟩ := hx
      exact ⟨q, go q hq fun k hk hkq e' => hkq (hid k q hk hq (e'.symm.trans e))⟩
    · exact ⟨0, go 0 hK fun k hk _ e => hx ⟨k, hk, e⟩⟩
/-- only the set of the pairs counts -/
theorem pw_sched_set {K K' : Nat} {id sp id' sp' : Nat → Nat} (h : ∀ k, k < K' → ∃ j, j < K ∧ id j = id' k ∧ sp j ≤ sp' k) (hs : pw_sched K id sp) : pw_sched K' id' sp' := by
  obtain ⟨f, hf⟩ := hs
  refine ⟨f, fun k hk t => ?_⟩
  obtain ⟨j, hj, e1, e2⟩ := h k hk
  obtain ⟨d, hd, e⟩ := hf j hj t
  exact ⟨d, by omega, by rw [e, e1]⟩
end
section
/-! Counting; the worklist of bad states; the plain search for them. -/
def pw_ct (p : Nat → Bool) : Nat → Nat
  | 0 => 0
  | k + 1 => pw_ct p k + (if p k = true then 1 else 0)
theorem pw_ct_le (p : Nat → Bool) : ∀ n, pw_ct p n ≤ n := by
  intro n
  induction n with
  | zero => exact Nat.le_refl 0
  | succ n ih =>
    show pw_ct p n + (if p n = true then 1 else 0) ≤ n + 1
    split <;> omega
theorem pw_ct_congr {p q : Nat → Bool} {n : Nat} (h : ∀ k, k < n → p k = q k) : pw_ct p n = pw_ct q n := by
  induction n with
  | zero => rfl
  | succ n ih =>
    show pw_ct p n + _ = pw_ct q n + _
    rw [ih fun k hk => h k (Nat.lt_succ_of_lt hk), h n (Nat.lt_succ_self n)]
theorem pw_ct_pos {p : Nat → Bool} {n : Nat} : 0 < pw_ct p n ↔ ∃ k, k < n ∧ p k = true := by
  induction n with
  | zero => exact ⟨fun h => absurd h (Nat.lt_irrefl 0), fun ⟨k, hk, _⟩ => absurd hk (Nat.not_lt_zero k)⟩
  | succ n ih =>
    show 0 < pw_ct p n + (if p n = true then 1 else 0) ↔ _
    constructor
    · intro h
      by_cases hp : p n = true
      · exact ⟨n, Nat.lt_succ_self n, hp⟩
      · rw [if_neg hp] at h
        obtain ⟨k, hk, e⟩ := ih.mp h
        exact ⟨k, Nat.lt_succ_of_lt hk, e⟩
    · intro ⟨k, hk, e⟩
      by_cases hkn : k = n
      · subst hkn; rw [if_pos e]; omega
      · have := ih.mpr ⟨k, by omega, e⟩
        omega
/-- one falls away -/
theorem pw_ct_less {p q : Nat → Bool} {n t : Nat} (ht : t < n) (hp : p t = true) (hq : q t = false) (h : ∀ k, k < n → k ≠ t → q k = p k) : pw_ct p n = pw_ct q n + 1 := by
  induction n with
  | zero => exact absurd ht (Nat.not_lt_zero t)
  | succ n ih =>
    show pw_ct p n + (if p n = true then 1 else 0) = pw_ct q n + (if q n = true then 1 else 0) + 1
    by_cases hn : t = n
    · subst hn
      rw [hp, hq, pw_ct_congr (p := p) (q := q) fun k hk => (h k (Nat.lt_succ_of_lt hk) (by omega)).symm]
      simp
    · rw [ih (by omega) fun k hk hkt => h k (Nat.lt_succ_of_lt hk) hkt, h n (Nat.lt_succ_self n) (fun e => hn e.symm)]
      omega
/-- no more different numbers below N than N -/
theorem pw_few {U : Nat → Nat} : ∀ (N n : Nat), (∀ i, i < n → U i < N) → (∀ i j, i < n → j < n → U i = U j → i = j) → n ≤ N := by
  intro N
  induction N generalizing U with
  | zero =>
    intro n h _
    cases n with
    | zero => exact Nat.le_refl 0
    | succ n => exact absurd (h 0 (Nat.succ_pos n)) (Nat.not_lt_zero _)
  | succ N ih =>
    intro n h hi
    cases n with
    | zero => exact Nat.zero_le _
    | succ n =>
      -- swap the place of the greatest with the last one
      by_cases hx : ∃ i, i < n + 1 ∧ U i = N
      · obtain ⟨i, hin, e⟩ := hx
        have hV : n ≤ N := by
          refine ih (U := fun j => if j = i then U n else U j) n (fun j hj => ?_) (fun a b ha hb hab => ?_)
          · by_cases hji : j = i
            · simp only [if_pos hji]
              have h1 := h n (Nat.lt_succ_self n)
              have h2 : U n ≠ N := fun e2 => by have := hi n i (Nat.lt_succ_self n) hin (e2.trans e.symm); omega
              omega
            · simp only [if_neg hji]
              have h1 := h j (by omega)
              have h2 : U j ≠ N := fun e2 => hji (hi j i (by omega) hin (e2.trans e.symm))
              omega
          · by_cases h1 : a = i <;> by_cases h2 : b = i
            · omega
            · simp only [if_pos h1, if_neg h2] at hab
              have := hi n b (Nat.lt_succ_self n) (by omega) hab
              omega
            · simp only [if_neg h1, if_pos h2] at hab
              have := hi a n (by omega) (Nat.lt_succ_self n) hab
              omega
            · simp only [if_neg h1, if_neg h2] at hab
              exact hi a b (by omega) (by omega) hab
        omega
      · have hV : n + 1 ≤ N := by
          refine ih (U := U) (n + 1) (fun j hj => ?_) hi
          have h1 := h j hj
          have h2 : U j ≠ N := fun e2 => hx ⟨j, hj, e2⟩
          omega
        omega
/-- if there are as many as N, all are there -/
theorem pw_all {U : Nat → Nat} {N : Nat} (h : ∀ i, i < N → U i < N) (hi : ∀ i j, i < N → j < N → U i = U j → i = j) : ∀ s, s < N → ∃ i, i < N ∧ U i = s := by
  intro s hs
  by_cases hx : ∃ i, i < N ∧ U i = s
  · exact hx
  · have := pw_few (U := fun i => if i = N then s else U i) N (N + 1) (fun i hi' => by
      by_cases e : i = N
      · simp only [if_pos e]; exact hs
      · simp only [if_neg e]; exact h i (by omega)) (fun a b ha hb hab => by
      by_cases h1 : a = N <;> by_cases h2 : b = N
      · omega
      · simp only [if_pos h1, if_neg h2] at hab; exact absurd ⟨b, by omega, hab.symm⟩ hx
      · simp only [if_neg h1, if_pos h2] at hab; exact absurd ⟨a, by omega, hab⟩ hx
      · simp only [if_neg h1, if_neg h2] at hab; exact hi a b (by omega) (by omega) hab)
    omega
/-- as a yes or no -/
noncomputable def pw_okb (K : Nat) (sp : Nat → Nat) (s t : Nat) : Bool := @decide (pw_ok K sp s t) (Classical.propDecidable _)
theorem pw_okb_iff {K : Nat} {sp : Nat → Nat} {s t : Nat} : pw_okb K sp s t = true ↔ pw_ok K sp s t := by
  unfold pw_okb
  exact @decide_eq_true_iff _ (Classical.propDecidable _)
/-- how many have no slot left -/
def pw_ur (sp : Nat → Nat) (s : Nat) (n : Nat) : Nat := pw_ct (fun k => decide (pw_dg sp s k = 0)) n
/-- the ways on, by how many have no slot left -/
theorem pw_ways {K : Nat} {sp : Nat → Nat} {s : Nat} : pw_ct (pw_okb K sp s) K = if pw_ur sp s K = 0 then K else if pw_ur sp s K = 1 then 1 else 0 := by
  have hz : ∀ k, k < K → pw_dg sp s k = 0 → 0 < pw_ur sp s K := fun k hk e => pw_ct_pos.mpr ⟨k, hk, decide_eq_true e⟩
  by_cases h0 : pw_ur sp s K = 0
  · rw [if_pos h0]
    have hall : ∀ k, k < K → pw_dg sp s k ≠ 0 := fun k hk e => by have := hz k hk e; omega
    have h1 : pw_ct (pw_okb K sp s) K = pw_ct (fun _ => true) K := pw_ct_congr fun t _ => pw_okb_iff.mpr fun k hk _ => hall k hk
    have h2 : ∀ n, pw_ct (fun _ => true) n = n := by
      intro n
      induction n with
      | zero => rfl
      | succ n ih => show pw_ct _ n + (if true = true then 1 else 0) = n + 1; rw [ih]; rfl
    rw [h1, h2]
  · rw [if_neg h0]
    obtain ⟨a, ha, ea⟩ := pw_ct_pos.mp (Nat.pos_of_ne_zero h0)
    have ea' : pw_dg sp s a = 0 := of_decide_eq_true ea
    have hless := pw_ct_less (p := fun k => decide (pw_dg sp s k = 0)) (q := fun k => decide (pw_dg sp s k = 0 ∧ k ≠ a)) ha ea (by simp) (fun k _ hk => by simp [hk])
    have hless : pw_ur sp s K = pw_ct (fun k => decide (pw_dg sp s k = 0 ∧ k ≠ a)) K + 1 := hless
    by_cases h1 : pw_ur sp s K = 1
    · rw [if_pos h1]
      have hno : ∀ k, k < K → k ≠ a → pw_dg sp s k ≠ 0 := fun k hk hka e => by
        have := pw_ct_pos (p := fun k => decide (pw_dg sp s k = 0 ∧ k ≠ a)) (n := K) |>.mpr ⟨k, hk, (decide_eq_true (⟨e, hka⟩ : pw_dg sp s k = 0 ∧ k ≠ a))⟩
        omega
      have h2 := pw_ct_less (p := pw_okb K sp s) (q := fun _ => false) (n := K) ha (pw_okb_iff.mpr hno) rfl (fun t ht hta => by
        cases hb : pw_okb K sp s t with
        | false => rfl
        | true => exact absurd ea' (pw_okb_iff.mp hb a ha (fun e => hta e.symm)))
      have h3 : ∀ n, pw_ct (fun _ => false) n = 0 := by
        intro n
        induction n with
        | zero => rfl
        | succ n ih => show pw_ct _ n + (if false = true then 1 else 0) = 0; rw [ih]; rfl
      rw [h2, h3]
    · rw [if_neg h1]
      have h2 : 0 < pw_ct (fun k => decide (pw_dg sp s k = 0 ∧ k ≠ a)) K := by omega
      obtain ⟨b, hb, eb⟩ := pw_ct_pos.mp h2
      have eb' := of_decide_eq_true eb
      by_cases h3 : 0 < pw_ct (pw_okb K sp s) K
      · obtain ⟨t, ht, et⟩ := pw_ct_pos.mp h3
        have ho := pw_okb_iff.mp et
        by_cases hta : a = t
        · subst hta
          exact absurd eb'.1 (ho b hb eb'.2)
        · exact absurd ea' (ho a ha hta)
      · omega
/-- the book of a worklist: wy the ways on, U the list of uc, the first kp are done; D the ways struck -/
def pw_J (K : Nat) (sp wy U : Nat → Nat) (uc kp : Nat) (D : Nat → Nat → Bool) : Prop :=
  (∀ s, s < pw_w sp K → wy s = pw_ct (fun t => pw_okb K sp s t && !D s t) K) ∧
  (∀ s t, D s t = true → ¬ pw_safe K sp (pw_nx K sp s t)) ∧
  (∀ s, s < pw_w sp K → ((∃ i, i < uc ∧ U i = s) ↔ wy s = 0)) ∧
  (∀ i, i < uc → U i < pw_w sp K) ∧ (∀ i j, i < uc → j < uc → U i = U j → i = j) ∧ kp ≤ uc ∧
  (∀ i s t, i < kp → s < pw_w sp K → t < K → pw_ok K sp s t → pw_nx K sp s t = U i → D s t = true)
theorem pw_J_few {K : Nat} {sp wy U : Nat → Nat} {uc kp : Nat} {D : Nat → Nat → Bool} (h : pw_J K sp wy U uc kp D) : uc ≤ pw_w sp K := pw_few _ _ h.2.2.2.1 h.2.2.2.2.1
theorem pw_J_bad {K : Nat} {sp wy U : Nat → Nat} {uc kp : Nat} {D : Nat → Nat → Bool} (h : pw_J K sp wy U uc kp D) {s : Nat} (hs : s < pw_w sp K) (h0 : wy s = 0) : ¬ pw_safe K sp s := by
  intro hsafe
  obtain ⟨-, t, ht, hok, hn⟩ := pw_safe_step hsafe
  have h1 := h.1 s hs
  have h2 : ¬ 0 < pw_ct (fun t => pw_okb K sp s t && !D s t) K := by omega
  refine h2 (pw_ct_pos.mpr ⟨t, ht, ?_⟩)
  cases hD : D s t with
  | false => simp [pw_okb_iff.mpr hok]
  | true => exact absurd hn (h.2.1 s t hD)
theorem pw_J_end {K : Nat} {sp wy U : Nat → Nat} {uc : Nat} {D : Nat → Nat → Bool} (hsp : ∀ k, k < K → 0 < sp k) (h : pw_J K sp wy U uc uc D) : ∀ s, s < pw_w sp K → (0 < wy s ↔ pw_safe K sp s) := by
  intro s hs
  constructor
  · intro h0
    refine ⟨fun s => s < pw_w sp K ∧ 0 < wy s, ⟨hs, h0⟩, ?_⟩
    intro s ⟨hs, h0⟩
    refine ⟨hs, ?_⟩
    rw [h.1 s hs] at h0
    obtain ⟨t, ht, e⟩ := pw_ct_pos.mp h0
    simp only [Bool.and_eq_true, Bool.not_eq_true'] at e
    have hok := pw_okb_iff.mp e.1
    refine ⟨t, ht, hok, pw_nx_lt hsp s t, ?_⟩
    refine Nat.pos_of_ne_zero fun hw => ?_
    obtain ⟨i, hi, ei⟩ := (h.2.2.1 _ (pw_nx_lt hsp s t)).mpr hw
    have := h.2.2.2.2.2.2 i s t hi hs ht hok ei.symm
    rw [e.2] at this
    cases this
  · intro hsafe
    refine Nat.pos_of_ne_zero fun hw => pw_J_bad h hs hw hsafe
/-- a way is struck -/
theorem pw_J_strike {K : Nat} {sp wy U : Nat → Nat} {uc kp : Nat} {D : Nat → Nat → Bool} (hsp : ∀ k, k < K → 0 < sp k) (h : pw_J K sp wy U uc kp D) {s t : Nat} (hs : s < pw_w sp K) (ht : t < K) (hok : pw_ok K sp s t) (hD : D s t = false) (hkp : kp < uc) (hn : pw_nx K sp s t = U kp) :
    0 < wy s ∧ pw_J K sp (fun j => if j = s then wy s - 1 else wy j) (if wy s - 1 = 0 then (fun j => if j = uc then s else U j) else U) (if wy s - 1 = 0 then uc + 1 else uc) kp (fun a b => D a b || (decide (a = s) && decide (b = t))) := by
  obtain ⟨h1, h2, h3, h4, h5, h6, h7⟩ := id h
  have hwy : wy s = pw_ct (fun b => pw_okb K sp s b && !(D s b || (decide (s = s) && decide (b = t)))) K + 1 := by
    rw [h1 s hs]
    refine pw_ct_less ht ?_ ?_ ?_
    · simp [pw_okb_iff.mpr hok, hD]
    · simp
    · intro k _ hk; simp [hk]
  have hpos : 0 < wy s := by omega
  have hnotin : ∀ i, i < uc → U i ≠ s := fun i hi e => by have := (h3 s hs).mp ⟨i, hi, e⟩; omega
  have hU : ∀ i, i < uc → (if wy s - 1 = 0 then (fun j => if j = uc then s else U j) else U) i = U i := by
    intro i hi
    split
    · show (if i = uc then s else U i) = U i; rw [if_neg (by omega)]
    · rfl
  refine ⟨hpos, ?_, ?_, ?_, ?_, ?_, ?_, ?_⟩
  · intro j hj
    by_cases hjs : j = s
    · subst hjs
      show (if j = j then wy j - 1 else wy j) = _
      rw [if_pos rfl, hwy]
      rfl
    · simp only [if_neg hjs]
      rw [h1 j hj]
      exact pw_ct_congr fun k _ => by simp [hjs]
  · intro a b hab
    by_cases hab' : D a b = true
    · exact h2 a b hab'
    · have hab2 : a = s ∧ b = t := by simpa [hab'] using hab
      obtain ⟨rfl, rfl⟩ := hab2
      rw [hn]
      exact pw_J_bad h (h4 kp hkp) ((h3 _ (h4 kp hkp)).mp ⟨kp, hkp, rfl⟩)
  · intro j hj
    by_cases hw : wy s - 1 = 0
    · simp only [if_pos hw]
      by_cases hjs : j = s
      · subst hjs
        simp only [if_true]
        exact ⟨fun _ => hw, fun _ => ⟨uc, Nat.lt_succ_self uc, by simp⟩⟩
      · simp only [if_neg hjs]
        rw [← h3 j hj]
        constructor
        · intro ⟨i, hi, e⟩
          by_cases hiu : i = uc
          · rw [if_pos hiu] at e; exact absurd e.symm hjs
          · rw [if_neg hiu] at e; exact ⟨i, by omega, e⟩
        · intro ⟨i, hi, e⟩
          exact ⟨i, by omega, by rw [if_neg (by omega)]; exact e⟩
    · simp only [if_neg hw]
      by_cases hjs : j = s
      · subst hjs
        simp only [if_true]
        exact ⟨fun ⟨i, hi, e⟩ => absurd e (hnotin i hi), fun e => absurd e hw⟩
      · simp only [if_neg hjs]
        exact h3 j hj
  · intro i hi
    by_cases hiu : i < uc
    · rw [hU i hiu]; exact h4 i hiu
    · by_cases hw : wy s - 1 = 0
      · rw [if_pos hw] at hi ⊢
        have : i = uc := by omega
        simp only [if_pos this]
        exact hs
      · rw [if_neg hw] at hi; omega
  · intro i j hi hj hij
    by_cases hw : wy s - 1 = 0
    · rw [if_pos hw] at hi hj hij
      by_cases hiu : i = uc <;> by_cases hju : j = uc
      · omega
      · simp only [if_pos hiu, if_neg hju] at hij
        exact absurd hij.symm (hnotin j (by omega))
      · simp only [if_neg hiu, if_pos hju] at hij
        exact absurd hij (hnotin i (by omega))
      · simp only [if_neg hiu, if_neg hju] at hij
        exact h5 i j (by omega) (by omega) hij
    · rw [if_neg hw] at hi hj hij
      exact h5 i j hi hj hij
  · split <;> omega
  · intro i a b hi ha hb hok' e
    rw [hU i (by omega)] at e
    show (D a b || (decide (a = s) && decide (b = t))) = true
    rw [h7 i a b hi ha hb hok' e]
    rfl
/-- one of the list is done -/
theorem pw_J_next {K : Nat} {sp wy U : Nat → Nat} {uc kp : Nat} {D : Nat → Nat → Bool} (h : pw_J K sp wy U uc kp D) (hkp : kp < uc) (hd : ∀ s t, s < pw_w sp K → t < K → pw_ok K sp s t → pw_nx K sp s t = U kp → D s t = true) : pw_J K sp wy U uc (kp + 1) D := by
  obtain ⟨h1, h2, h3, h4, h5, h6, h7⟩ := h
  refine ⟨h1, h2, h3, h4, h5, hkp, fun i s t hi hs ht hok e => ?_⟩
  by_cases hik : i = kp
  · subst hik; exact hd s t hs ht hok e
  · exact h7 i s t (by omega) hs ht hok e
/-- from where a state comes when t is served: t has its full span, and no other one has -/
def pw_cf (K : Nat) (sp : Nat → Nat) (s t : Nat) : Prop := ∀ k, k < K → (pw_dg sp s k = sp k - 1 ↔ k = t)
/-- the digits ahead of a service of t -/
def pw_pd (sp : Nat → Nat) (s t v : Nat) : Nat → Nat := fun k => if k = t then v else pw_dg sp s k + 1
def pw_pr (K : Nat) (sp : Nat → Nat) (s t v : Nat) : Nat := pw_en sp (pw_pd sp s t v) K
theorem pw_pd_lt {K : Nat} {sp : Nat → Nat} {s t v : Nat} (hsp : ∀ k, k < K → 0 < sp k) (hc : pw_cf K sp s t) (hv : v < sp t) : ∀ k, k < K → pw_pd sp s t v k < sp k := by
  intro k hk
  unfold pw_pd
  by_cases hkt : k = t
  · subst hkt; rw [if_pos rfl]; exact hv
  · rw [if_neg hkt]
    have h1 := pw_dg_lt (sp := sp) (s := s) (hsp k hk)
    have h2 : pw_dg sp s k ≠ sp k - 1 := fun e => hkt ((hc k hk).mp e)
    omega
theorem pw_pr_lt {K : Nat} {sp : Nat → Nat} {s t v : Nat} (hsp : ∀ k, k < K → 0 < sp k) (hc : pw_cf K sp s t) (hv : v < sp t) : pw_pr K sp s t v < pw_w sp K := pw_en_lt (pw_pd_lt hsp hc hv)
theorem pw_dg_pr {K : Nat} {sp : Nat → Nat} {s t v : Nat} (hsp : ∀ k, k < K → 0 < sp k) (hc : pw_cf K sp s t) (hv : v < sp t) : ∀ k, k < K → pw_dg sp (pw_pr K sp s t v) k = pw_pd sp s t v k := pw_dg_en (pw_pd_lt hsp hc hv)
theorem pw_pr_ok {K : Nat} {sp : Nat → Nat} {s t v : Nat} (hsp : ∀ k, k < K → 0 < sp k) (hc : pw_cf K sp s t) (hv : v < sp t) : pw_ok K sp (pw_pr K sp s t v) t := by
  intro k hk hkt
  rw [pw_dg_pr hsp hc hv k hk]
  simp only [pw_pd, if_neg hkt]
  omega
theorem pw_pr_nx {K : Nat} {sp : Nat → Nat} {s t v : Nat} (hsp : ∀ k, k < K → 0 < sp k) (hc : pw_cf K sp s t) (hv : v < sp t) (ht : t < K) (hs : s < pw_w sp K) : pw_nx K sp (pw_pr K sp s t v) t = s := by
  refine pw_ext (pw_nx_lt hsp _ _) hs fun k hk => ?_
  rw [pw_dg_nx hsp _ _ k hk]
  by_cases hkt : k = t
  · subst hkt
    simp only [pw_nd, if_true]
    exact ((hc k hk).mpr rfl).symm
  · simp only [pw_nd, if_neg hkt]
    rw [pw_dg_pr hsp hc hv k hk]
    simp only [pw_pd, if_neg hkt]
    omega
/-- every way into s is one of these -/
theorem pw_way_in {K : Nat} {sp : Nat → Nat} {s t b : Nat} (hsp : ∀ k, k < K → 0 < sp k) (ht : t < K) (hb : b < pw_w sp K) (hok : pw_ok K sp b t) (hn : pw_nx K sp b t = s) : pw_cf K sp s t ∧ b = pw_pr K sp s t (pw_dg sp b t) := by
  have hd : ∀ k, k < K → pw_dg sp s k = pw_nd sp b t k := fun k hk => by rw [← hn]; exact pw_dg_nx hsp b t k hk
  have hc : pw_cf K sp s t := by
    intro k hk
    rw [hd k hk]
    by_cases hkt : k = t
    · subst hkt; simp [pw_nd]
    · simp only [pw_nd, if_neg hkt]
      have h1 := hok k hk hkt
      have h2 := pw_dg_lt (sp := sp) (s := b) (hsp k hk)
      constructor
      · intro e; omega
      · intro e; exact absurd e hkt
  have hv := pw_dg_lt (sp := sp) (s := b) (hsp t ht)
  refine ⟨hc, pw_ext hb (pw_pr_lt hsp hc hv) fun k hk => ?_⟩
  rw [pw_dg_pr hsp hc hv k hk]
  by_cases hkt : k = t
  · subst hkt; simp [pw_pd]
  · simp only [pw_pd, if_neg hkt]
    rw [hd k hk]
    simp only [pw_nd, if_neg hkt]
    have h1 := hok k hk hkt
    omega
/-- another way to count it -/
theorem pw_pr_sum {K : Nat} {sp : Nat → Nat} {s t v : Nat} (hsp : ∀ k, k < K → 0 < sp k) (ht : t < K) (hs : s < pw_w sp K) (hc : pw_cf K sp s t) : pw_pr K sp s t v + pw_w sp t * sp t = s + pw_sw sp K + v * pw_w sp t := by
  have key : ∀ n, n ≤ K → pw_en sp (pw_pd sp s t v) n + (if t < n then pw_w sp t * sp t else 0) = pw_en sp (pw_dg sp s) n + pw_sw sp n + (if t < n then v * pw_w sp t else 0) := by
    intro n
    induction n with
    | zero => intro _; simp [pw_en, pw_sw]
    | succ n ih =>
      intro hn
      have h1 := ih (by omega)
      show pw_en sp (pw_pd sp s t v) n + pw_pd sp s t v n * pw_w sp n + _ = pw_en sp (pw_dg sp s) n + pw_dg sp s n * pw_w sp n + (pw_sw sp n + pw_w sp n) + _
      by_cases hnt : n = t
      · subst hnt
        rw [if_neg (Nat.lt_irrefl n), if_neg (Nat.lt_irrefl n)] at h1
        rw [if_pos (Nat.lt_succ_self n), if_pos (Nat.lt_succ_self n)]
        have h3 : pw_pd sp s n v n = v := by simp [pw_pd]
        have h2 := hsp n ht
        have h4 : pw_dg sp s n * pw_w sp n + pw_w sp n = pw_w sp n * sp n := by
          rw [(hc n ht).mpr rfl, ← Nat.succ_mul, Nat.mul_comm]; congr 1; omega
        rw [h3]
        omega
      · have h3 : pw_pd sp s t v n = pw_dg sp s n + 1 := by simp [pw_pd, hnt]
        have h4 : (pw_dg sp s n + 1) * pw_w sp n = pw_dg sp s n * pw_w sp n + pw_w sp n := Nat.succ_mul _ _
        have h5 : (t < n + 1) = (t < n) := by apply propext; omega
        rw [h3, h4]
        simp only [h5]
        omega
  have h := key K (Nat.le_refl K)
  rw [if_pos ht, if_pos ht, pw_en_dg' hs] at h
  exact h
/-- the plain search: what is still marked -/
def pw_M (K : Nat) (sp : Nat → Nat) (sf : Nat → Bool) : Prop := ∀ s, s < pw_w sp K → pw_safe K sp s → sf s = true
/-- a first client with which a marked state comes -/
def pw_gd (K : Nat) (sp : Nat → Nat) (sf : Nat → Bool) (s : Nat) : Prop := ∃ t, t < K ∧ pw_ok K sp s t ∧ sf (pw_nx K sp s t) = true
theorem pw_M_off {K : Nat} {sp : Nat → Nat} {sf : Nat → Bool} (h : pw_M K sp sf) (hsp : ∀ k, k < K → 0 < sp k) {s : Nat} (hg : ¬ pw_gd K sp sf s) : pw_M K sp (fun j => if j = s then false else sf j) := by
  intro j hj hsafe
  by_cases hjs : j = s
  · subst hjs
    obtain ⟨-, t, ht, hok, hn⟩ := pw_safe_step hsafe
    exact absurd ⟨t, ht, hok, h _ (pw_nx_lt hsp _ _) hn⟩ hg
  · simp only [if_neg hjs]; exact h j hj hsafe
theorem pw_M_end {K : Nat} {sp : Nat → Nat} {sf : Nat → Bool} (h : pw_M K sp sf) (hsp : ∀ k, k < K → 0 < sp k) (he : ∀ s, s < pw_w sp K → sf s = true → pw_gd K sp sf s) : ∀ s, s < pw_w sp K → (sf s = true ↔ pw_safe K sp s) := by
  intro s hs
  refine ⟨fun h0 => ⟨fun s => s < pw_w sp K ∧ sf s = true, ⟨hs, h0⟩, fun s ⟨hs, h0⟩ => ?_⟩, h s hs⟩
  obtain ⟨t, ht, hok, hn⟩ := he s hs h0
  exact ⟨hs, t, ht, hok, pw_nx_lt hsp _ _, hn⟩
end
section
/-! The walk of builder 3, from the state of the full spans on. -/
/-- the first client with which a safe state comes -/
def pw_F (K : Nat) (sp : Nat → Nat) (s t : Nat) : Prop := t < K ∧ (pw_ok K sp s t ∧ pw_safe K sp (pw_nx K sp s t)) ∧ ∀ t', t' < t → ¬ (pw_ok K sp s t' ∧ pw_safe K sp (pw_nx K sp s t'))
theorem pw_F_ex {K : Nat} {sp : Nat → Nat} {s : Nat} (h : pw_safe K sp s) : ∃ t, pw_F K sp s t := by
  obtain ⟨-, t, ht, hok, hn⟩ := pw_safe_step h
  obtain ⟨k, hk, hl⟩ := pk_least (fun t => t < K ∧ pw_ok K sp s t ∧ pw_safe K sp (pw_nx K sp s t)) ⟨t, ht, hok, hn⟩
  exact ⟨k, hk.1, hk.2, fun t' ht' h' => hl t' ht' ⟨Nat.lt_trans ht' hk.1, h'⟩⟩
theorem pw_F_eq {K : Nat} {sp : Nat → Nat} {s t t' : Nat} (h : pw_F K sp s t) (h' : pw_F K sp s t') : t = t' := by
  rcases Nat.lt_trichotomy t t' with h1 | h1 | h1
  · exact absurd h.2.1 (h'.2.2 t h1)
  · exact h1
  · exact absurd h'.2.1 (h.2.2 t' h1)
def pw_P (K : Nat) (sp st tn : Nat → Nat) (T : Nat) : Prop := st 0 = pw_w sp K - 1 ∧ pw_safe K sp (st T) ∧ ∀ i, i < T → pw_F K sp (st i) (tn i) ∧ st (i + 1) = pw_nx K sp (st i) (tn i)
theorem pw_P_0 {K : Nat} {sp : Nat → Nat} (h : pw_safe K sp (pw_w sp K - 1)) : pw_P K sp (fun _ => pw_w sp K - 1) (fun _ => 0) 0 := ⟨rfl, h, fun i hi => absurd hi (Nat.not_lt_zero i)⟩
theorem pw_P_add {K : Nat} {sp st tn : Nat → Nat} {T t : Nat} (h : pw_P K sp st tn T) (ht : pw_F K sp (st T) t) : pw_P K sp (fun i => if i = T + 1 then pw_nx K sp (st T) t else st i) (fun i => if i = T then t else tn i) (T + 1) := by
  refine ⟨?_, ?_, fun i hi => ?_⟩
  · show (if 0 = T + 1 then _ else st 0) = _
    rw [if_neg (by omega)]; exact h.1
  · simp only [if_true]; exact ht.2.1.2
  · by_cases hiT : i = T
    · subst hiT
      simp only [if_true, if_neg (show ¬ i = i + 1 by omega)]
      exact ⟨ht, trivial⟩
    · have h1 := h.2.2 i (by omega)
      simp only [if_neg hiT, if_neg (show ¬ i = T + 1 by omega), if_neg (show ¬ i + 1 = T + 1 by omega)]
      exact h1
theorem pw_P_safe {K : Nat} {sp st tn : Nat → Nat} {T : Nat} (h : pw_P K sp st tn T) : ∀ i, i ≤ T → pw_safe K sp (st i) := by
  intro i hi
  by_cases hiT : i = T
  · subst hiT; exact h.2.1
  · obtain ⟨h1, -⟩ := h.2.2 i (by omega)
    have h2 := h1.2.1
    cases i with
    | zero =>
      rw [h.1]
      by_cases hT : T = 0
      · omega
      · exact ⟨fun s => s = pw_w sp K - 1 ∨ pw_safe K sp s, Or.inl rfl, fun s hs => by
          rcases hs with rfl | hs
          · rw [h.1] at h1
            have h3 : pw_w sp K - 1 < pw_w sp K := by
              have h4 := (pw_safe_step h1.2.1.2).1
              omega
            exact ⟨h3, tn 0, h1.1, h1.2.1.1, Or.inr h1.2.1.2⟩
          · obtain ⟨a, t, b, c, d⟩ := pw_safe_step hs
            exact ⟨a, t, b, c, Or.inr d⟩⟩
    | succ j =>
      have h3 := h.2.2 j (by omega)
      rw [h3.2]
      exact h3.1.2.1.2
theorem pw_P_eq {K : Nat} {sp st tn st' tn' : Nat → Nat} {T T' : Nat} (h : pw_P K sp st tn T) (h' : pw_P K sp st' tn' T') : ∀ i, i ≤ T → i ≤ T' → st i = st' i ∧ (i < T → i < T' → tn i = tn' i) := by
  intro i
  induction i with
  | zero =>
    intro _ _
    have e : st 0 = st' 0 := h.1.trans h'.1.symm
    refine ⟨e, fun a b => ?_⟩
    have h1 := (h.2.2 0 a).1
    rw [e] at h1
    exact pw_F_eq h1 (h'.2.2 0 b).1
  | succ i ih =>
    intro a b
    obtain ⟨e1, e2⟩ := ih (by omega) (by omega)
    have e3 := e2 (by omega) (by omega)
    have e : st (i + 1) = st' (i + 1) := by rw [(h.2.2 i (by omega)).2, (h'.2.2 i (by omega)).2, e1, e3]
    refine ⟨e, fun a b => ?_⟩
    have h1 := (h.2.2 (i + 1) a).1
    rw [e] at h1
    exact pw_F_eq h1 (h'.2.2 (i + 1) b).1
/-- the cycle of builder 3: K clients in their order, with these ids and spans -/
def pw_B3 (K : Nat) (sp id : Nat → Nat) (L : Nat) (cy : Nat → Nat) : Prop :=
  ∃ (st tn : Nat → Nat) (T fr : Nat), pw_P K sp st tn T ∧ fr < T ∧ st T = st fr ∧ (∀ i j, i < j → j < T → st i ≠ st j) ∧ L = T - fr ∧ ∀ j, j < L → cy j = id (tn (fr + j))
theorem pw_B3_eq {K : Nat} {sp id : Nat → Nat} {L L' : Nat} {cy cy' : Nat → Nat} (h : pw_B3 K sp id L cy) (h' : pw_B3 K sp id L' cy') : L = L' ∧ ∀ j, j < L → cy j = cy' j := by
  obtain ⟨st, tn, T, fr, hp, hf, he, hd, hL, hc⟩ := h
  obtain ⟨st', tn', T', fr', hp', hf', he', hd', hL', hc'⟩ := h'
  have hT : T = T' := by
    rcases Nat.lt_trichotomy T T' with h1 | h1 | h1
    · have e1 := (pw_P_eq hp hp' T (Nat.le_refl T) (by omega)).1
      have e2 := (pw_P_eq hp hp' fr (by omega) (by omega)).1
      exact absurd (e2.symm.trans (he.symm.trans e1)) (hd' fr T hf h1)
    · exact h1
    · have e1 := (pw_P_eq hp hp' T' (by omega) (Nat.le_refl T')).1
      have e2 := (pw_P_eq hp hp' fr' (by omega) (by omega)).1
      exact absurd (e2.trans (he'.symm.trans e1.symm)) (hd fr' T' hf' h1)
  subst hT
  have hfr : fr = fr' := by
    have e0 := (pw_P_eq hp hp' T (Nat.le_refl T) (Nat.le_refl T)).1
    have e1 := (pw_P_eq hp hp' fr' (by omega) (by omega)).1
    have e2 : st fr = st fr' := by rw [← he, e0, he', e1]
    rcases Nat.lt_trichotomy fr fr' with h1 | h1 | h1
    · exact absurd e2 (hd fr fr' h1 hf')
    · exact h1
    · exact absurd e2.symm (hd fr' fr h1 hf)
  subst hfr
  refine ⟨by omega, fun j hj => ?_⟩
  rw [hc j hj, hc' j (by omega), (pw_P_eq hp hp' (fr + j) (by omega) (by omega)).2 (by omega) (by omega)]
/-- each client has a place -/
theorem pw_B3_has {K : Nat} {sp id : Nat → Nat} {L : Nat} {cy : Nat → Nat} (hsp : ∀ k, k < K → 0 < sp k) (h : pw_B3 K sp id L cy) : 0 < L ∧ ∀ k, k < K → ∃ j, j < L ∧ cy j = id k := by
  obtain ⟨st, tn, T, fr, hp, hf, he, hd, hL, hc⟩ := h
  refine ⟨by omega, fun k hk => ?_⟩
  by_cases hx : ∃ j, j < L ∧ tn (fr + j) = k
  · obtain ⟨j, hj, e⟩ := hx
    exact ⟨j, hj, by rw [hc j hj, e]⟩
  · have key : ∀ j, j ≤ L → pw_dg sp (st (fr + j)) k + j = pw_dg sp (st fr) k := by
      intro j
      induction j with
      | zero => intro _; rfl
      | succ j ih =>
        intro hj
        have h1 := ih (by omega)
        obtain ⟨h2, h3⟩ := hp.2.2 (fr + j) (by omega)
        have hne : k ≠ tn (fr + j) := fun e => hx ⟨j, by omega, e.symm⟩
        have h4 := h2.2.1.1 k hk hne
        have h5 : pw_dg sp (st (fr + (j + 1))) k = pw_dg sp (st (fr + j)) k - 1 := by
          rw [← Nat.add_assoc, h3, pw_dg_nx hsp _ _ k hk]
          simp only [pw_nd, if_neg hne]
        omega
    have h1 := key L (Nat.le_refl L)
    rw [show fr + L = T by omega, he] at h1
    omega
/-- the length is at most the number of states -/
theorem pw_P_few {K : Nat} {sp st tn : Nat → Nat} {T : Nat} (h : pw_P K sp st tn T) (hd : ∀ i j, i < j → j < T → st i ≠ st j) : T ≤ pw_w sp K := by
  refine pw_few (U := st) _ _ (fun i hi => (pw_safe_step (pw_P_safe h i (by omega))).1) fun i j hi hj e => ?_
  rcases Nat.lt_trichotomy i j with h1 | h1 | h1
  · exact absurd e (hd i j h1 hj)
  · exact h1
  · exact absurd e.symm (hd j i h1 hi)
end
section
/-! Clients in the order of their rounded spans; sums and products over them. -/
/-- k comes behind all that are not above it -/
def pw_ins (r : Nat → Nat) (k : Nat) : List Nat → List Nat
  | [] => [k]
  | x :: t => if r x ≤ r k then x :: pw_ins r k t else k :: x :: t
/-- the first n in the order of r -/
def pw_srt (r : Nat → Nat) : Nat → List Nat
  | 0 => []
  | k + 1 => pw_ins r k (pw_srt r k)
theorem pw_ins_len {r : Nat → Nat} {k : Nat} : ∀ l, (pw_ins r k l).length = l.length + 1 := by
  intro l
  induction l with
  | nil => rfl
  | cons x t ih =>
    unfold pw_ins
    split
    · simp [ih]
    · rfl
theorem pw_srt_len {r : Nat → Nat} : ∀ n, (pw_srt r n).length = n := by
  intro n
  induction n with
  | zero => rfl
  | succ n ih => show (pw_ins r n (pw_srt r n)).length = n + 1; rw [pw_ins_len, ih]
theorem pw_ins_mem {r : Nat → Nat} {k a : Nat} : ∀ l, a ∈ pw_ins r k l ↔ a = k ∨ a ∈ l := by
  intro l
  induction l with
  | nil => simp [pw_ins]
  | cons x t ih =>
    unfold pw_ins
    split
    · simp only [List.mem_cons, ih]
      constructor
      · rintro (h | h | h)
        · exact Or.inr (Or.inl h)
        · exact Or.inl h
        · exact Or.inr (Or.inr h)
      · rintro (h | h | h)
        · exact Or.inr (Or.inl h)
        · exact Or.inl h
        · exact Or.inr (Or.inr h)
    · simp only [List.mem_cons]
theorem pw_srt_mem {r : Nat → Nat} {a : Nat} : ∀ n, a ∈ pw_srt r n ↔ a < n := by
  intro n
  induction n with
  | zero => simp [pw_srt]
  | succ n ih =>
    show a ∈ pw_ins r n (pw_srt r n) ↔ _
    rw [pw_ins_mem, ih]
    omega
/-- before: in the order of r, of these the least number first -/
def pw_lt (r : Nat → Nat) (a b : Nat) : Prop := r a < r b ∨ (r a = r b ∧ a < b)
theorem pw_lt_irr {r : Nat → Nat} {a : Nat} : ¬ pw_lt r a a := by
  unfold pw_lt; omega
theorem pw_lt_trans {r : Nat → Nat} {a b c : Nat} (h : pw_lt r a b) (h' : pw_lt r b c) : pw_lt r a c := by
  unfold pw_lt at *; omega
theorem pw_lt_tot {r : Nat → Nat} {a b : Nat} (h : a ≠ b) : pw_lt r a b ∨ pw_lt r b a := by
  unfold pw_lt; omega
theorem pw_ins_srt {r : Nat → Nat} {k : Nat} : ∀ l : List Nat, (∀ a ∈ l, a < k) → l.Pairwise (pw_lt r) → (pw_ins r k l).Pairwise (pw_lt r) := by
  intro l
  induction l with
  | nil => intro _ _; simp [pw_ins]
  | cons x t ih =>
    intro hk hp
    rw [List.pairwise_cons] at hp
    have hx := hk x List.mem_cons_self
    unfold pw_ins
    split
    · rename_i hle
      rw [List.pairwise_cons]
      refine ⟨fun a ha => ?_, ih (fun a ha => hk a (List.mem_cons_of_mem _ ha)) hp.2⟩
      rcases (pw_ins_mem t).mp ha with rfl | ha
      · unfold pw_lt; omega
      · exact hp.1 a ha
    · rename_i hle
      rw [List.pairwise_cons]
      refine ⟨fun a ha => ?_, List.pairwise_cons.mpr hp⟩
      have h1 : pw_lt r k x := by unfold pw_lt; omega
      rcases List.mem_cons.mp ha with rfl | ha
      · exact h1
      · exact pw_lt_trans h1 (hp.1 a ha)
theorem pw_srt_srt {r : Nat → Nat} : ∀ n, (pw_srt r n).Pairwise (pw_lt r) := by
  intro n
  induction n with
  | zero => exact List.Pairwise.nil
  | succ n ih => exact pw_ins_srt _ (fun a ha => (pw_srt_mem n).mp ha) ih
/-- such an order is one alone -/
theorem pw_one {r : Nat → Nat} : ∀ l l' : List Nat, l.Pairwise (pw_lt r) → l'.Pairwise (pw_lt r) → (∀ a, a ∈ l ↔ a ∈ l') → l = l' := by
  intro l
  induction l with
  | nil =>
    intro l' _ _ h
    cases l' with
    | nil => rfl
    | cons y t => exact absurd ((h y).mpr List.mem_cons_self) (by simp)
  | cons x t ih =>
    intro l' hp hp' h
    cases l' with
    | nil => exact absurd ((h x).mp List.mem_cons_self) (by simp)
    | cons y t' =>
      rw [List.pairwise_cons] at hp hp'
      have hxy : x = y := by
        by_cases e : x = y
        · exact e
        · have h1 : x ∈ t' := (List.mem_cons.mp ((h x).mp List.mem_cons_self)).resolve_left e
          have h2 : y ∈ t := (List.mem_cons.mp ((h y).mpr List.mem_cons_self)).resolve_left fun z => e z.symm
          exact absurd (pw_lt_trans (hp.1 y h2) (hp'.1 x h1)) pw_lt_irr
      subst hxy
      rw [ih t' hp.2 hp'.2 fun a => ?_]
      constructor
      · intro ha
        rcases List.mem_cons.mp ((h a).mp (List.mem_cons_of_mem _ ha)) with rfl | h1
        · exact absurd (hp.1 a ha) pw_lt_irr
        · exact h1
      · intro ha
        rcases List.mem_cons.mp ((h a).mpr (List.mem_cons_of_mem _ ha)) with rfl | h1
        · exact absurd (hp'.1 a ha) pw_lt_irr
        · exact h1
/-- where k comes, found from the end -/
theorem pw_ins_at {r : Nat → Nat} {k : Nat} : ∀ (l : List Nat) (i : Nat), i ≤ l.length → (∀ j, j < i → r (l.getD j 0) ≤ r k) → (∀ j, i ≤ j → j < l.length → r k < r (l.getD j 0)) → pw_ins r k l = l.take i ++ k :: l.drop i := by
  intro l
  induction l with
  | nil =>
    intro i hi _ _
    have : i = 0 := by simpa using hi
    subst this
    rfl
  | cons x t ih =>
    intro i hi h1 h2
    cases i with
    | zero =>
      have := h2 0 (Nat.le_refl 0) (by simp)
      simp only [List.getD_cons_zero] at this
      unfold pw_ins
      rw [if_neg (by omega)]
      rfl
    | succ i =>
      have h3 := h1 0 (by omega)
      simp only [List.getD_cons_zero] at h3
      unfold pw_ins
      rw [if_pos h3, ih i (by simpa using hi) (fun j hj => by simpa using h1 (j + 1) (by omega)) (fun j hj hj' => by simpa using h2 (j + 1) (by omega) (by simpa using hj'))]
      rfl
theorem pw_ins_get {r : Nat → Nat} {k : Nat} {l : List Nat} {i : Nat} (hi : i ≤ l.length) (h : pw_ins r k l = l.take i ++ k :: l.drop i) : ∀ j, j ≤ l.length → (pw_ins r k l).getD j 0 = if j < i then l.getD j 0 else if j = i then k else l.getD (j - 1) 0 := by
  intro j hj
  rw [h]
  have hlen : (l.take i).length = i := by rw [List.length_take]; omega
  by_cases h1 : j < i
  · rw [if_pos h1]
    simp only [List.getD_eq_getElem?_getD]
    rw [List.getElem?_append_left (by omega), List.getElem?_take_of_lt h1]
  · rw [if_neg h1]
    by_cases h2 : j = i
    · subst h2
      rw [if_pos rfl]
      simp only [List.getD_eq_getElem?_getD]
      rw [List.getElem?_append_right (by omega), hlen, Nat.sub_self]
      rfl
    · rw [if_neg h2]
      simp only [List.getD_eq_getElem?_getD]
      rw [List.getElem?_append_right (by omega), hlen]
      obtain ⟨d, hd⟩ : ∃ d, j = i + 1 + d := ⟨j - i - 1, by omega⟩
      subst hd
      rw [show i + 1 + d - i = d + 1 by omega, List.getElem?_cons_succ, List.getElem?_drop, show i + 1 + d - 1 = i + d by omega]
theorem pw_getD (l : List Nat) (d : Nat) {i : Nat} (h : i < l.length) : l.getD i d = l[i] := by
  simp [List.getD_eq_getElem?_getD, h]
/-- in the order: not falling -/
theorem pw_srt_le {r : Nat → Nat} {n : Nat} : ∀ i j, i < j → j < n → pw_lt r ((pw_srt r n).getD i 0) ((pw_srt r n).getD j 0) := by
  intro i j hij hj
  have hp := pw_srt_srt (r := r) n
  have hl := pw_srt_len (r := r) n
  rw [List.pairwise_iff_getElem] at hp
  have h := hp i j (by omega) (by omega) hij
  rw [pw_getD _ _ (by omega), pw_getD _ _ (by omega)]
  exact h
theorem pw_srt_get {r : Nat → Nat} {n i : Nat} (hi : i < n) : (pw_srt r n).getD i 0 < n := by
  have hl := pw_srt_len (r := r) n
  rw [pw_getD _ _ (by omega)]
  exact (pw_srt_mem n).mp (List.getElem_mem _)
theorem pw_srt_all {r : Nat → Nat} {n a : Nat} (ha : a < n) : ∃ i, i < n ∧ (pw_srt r n).getD i 0 = a := by
  obtain ⟨i, hi, e⟩ := List.getElem_of_mem ((pw_srt_mem (r := r) n).mpr ha)
  rw [pw_srt_len] at hi
  exact ⟨i, hi, by rw [pw_getD _ _ (by rw [pw_srt_len]; exact hi)]; exact e⟩
theorem pw_srt_inj {r : Nat → Nat} {n i j : Nat} (hi : i < n) (hj : j < n) (e : (pw_srt r n).getD i 0 = (pw_srt r n).getD j 0) : i = j := by
  rcases Nat.lt_trichotomy i j with h | h | h
  · have := pw_srt_le (r := r) i j h hj; rw [e] at this; exact absurd this pw_lt_irr
  · exact h
  · have := pw_srt_le (r := r) j i h hi; rw [e] at this; exact absurd this pw_lt_irr
/-- sums -/
def pw_sm (f : Nat → Nat) : Nat → Nat
  | 0 => 0
  | k + 1 => pw_sm f k + f k
theorem pw_sm_congr {f g : Nat → Nat} {n : Nat} (h : ∀ k, k < n → f k = g k) : pw_sm f n = pw_sm g n := by
  induction n with
  | zero => rfl
  | succ n ih =>
    show pw_sm f n + f n = pw_sm g n + g n
    rw [ih fun k hk => h k (Nat.lt_succ_of_lt hk), h n (Nat.lt_succ_self n)]
theorem pw_sm_list (f : Nat → Nat) : ∀ l : List Nat, pw_sm (fun i => f (l.getD i 0)) l.length = (l.map f).sum := by
  intro l
  have key : ∀ (l : List Nat) n, n ≤ l.length → pw_sm (fun i => f (l.getD i 0)) n = ((l.take n).map f).sum := by
    intro l n
    induction n with
    | zero => intro _; simp [pw_sm]
    | succ n ih =>
      intro hn
      show pw_sm _ n + f (l.getD n 0) = _
      rw [ih (by omega), List.take_succ_eq_append_getElem (by omega), pw_getD _ _ (by omega), List.map_append, List.sum_append]
      rfl
  have h := key l l.length (Nat.le_refl _)
  rw [List.take_length] at h
  exact h
theorem pw_ins_sum {r f : Nat → Nat} {k : Nat} : ∀ l, ((pw_ins r k l).map f).sum = (l.map f).sum + f k := by
  intro l
  induction l with
  | nil => simp [pw_ins]
  | cons x t ih =>
    unfold pw_ins
    split
    · simp only [List.map_cons, List.sum_cons, ih]; omega
    · simp only [List.map_cons, List.sum_cons]; omega
theorem pw_srt_sum {r f : Nat → Nat} : ∀ n, ((pw_srt r n).map f).sum = pw_sm f n := by
  intro n
  induction n with
  | zero => rfl
  | succ n ih => show ((pw_ins r n (pw_srt r n)).map f).sum = _; rw [pw_ins_sum, ih]; rfl
/-- the sum in the order is the sum -/
theorem pw_srt_sm {r f : Nat → Nat} (n : Nat) : pw_sm (fun i => f ((pw_srt r n).getD i 0)) n = pw_sm f n := by
  have h := pw_sm_list f (pw_srt r n)
  rw [pw_srt_len, pw_srt_sum] at h
  exact h
/-- products -/
theorem pw_w_congr {f g : Nat → Nat} {n : Nat} (h : ∀ k, k < n → f k = g k) : pw_w f n = pw_w g n := by
  induction n with
  | zero => rfl
  | succ n ih =>
    show pw_w f n * f n = pw_w g n * g n
    rw [ih fun k hk => h k (Nat.lt_succ_of_lt hk), h n (Nat.lt_succ_self n)]
def pw_pl (f : Nat → Nat) : List Nat → Nat
  | [] => 1
  | x :: t => f x * pw_pl f t
theorem pw_pl_app {f : Nat → Nat} : ∀ l l', pw_pl f (l ++ l') = pw_pl f l * pw_pl f l' := by
  intro l l'
  induction l with
  | nil => simp [pw_pl]
  | cons x t ih => show f x * pw_pl f (t ++ l') = f x * pw_pl f t * pw_pl f l'; rw [ih, Nat.mul_assoc]
theorem pw_ins_pl {r f : Nat → Nat} {k : Nat} : ∀ l, pw_pl f (pw_ins r k l) = pw_pl f l * f k := by
  intro l
  induction l with
  | nil => show f k * 1 = 1 * f k; omega
  | cons x t ih =>
    unfold pw_ins
    split
    · show f x * pw_pl f (pw_ins r k t) = f x * pw_pl f t * f k; rw [ih, Nat.mul_assoc]
    · show f k * (f x * pw_pl f t) = f x * pw_pl f t * f k; rw [Nat.mul_comm]
theorem pw_w_list (f : Nat → Nat) (l : List Nat) : pw_w (fun i => f (l.getD i 0)) l.length = pw_pl f l := by
  have key : ∀ n, n ≤ l.length → pw_w (fun i => f (l.getD i 0)) n = pw_pl f (l.take n) := by
    intro n
    induction n with
    | zero => intro _; simp [pw_w, pw_pl]
    | succ n ih =>
      intro hn
      show pw_w _ n * f (l.getD n 0) = _
      rw [ih (by omega), List.take_succ_eq_append_getElem (by omega), pw_getD _ _ (by omega), pw_pl_app]
      show _ = pw_pl f (l.take n) * (f l[n] * 1)
      rw [Nat.mul_one]
  have h := key l.length (Nat.le_refl _)
  rw [List.take_length] at h
  exact h
theorem pw_srt_w {r f : Nat → Nat} (n : Nat) : pw_w (fun i => f ((pw_srt r n).getD i 0)) n = pw_w f n := by
  have h := pw_w_list f (pw_srt r n)
  rw [pw_srt_len] at h
  rw [h]
  clear h
  induction n with
  | zero => rfl
  | succ n ih => show pw_pl f (pw_ins r n (pw_srt r n)) = pw_w f n * f n; rw [pw_ins_pl, ih]
theorem pw_w_mono {f : Nat → Nat} {n m : Nat} (h : ∀ k, k < m → 0 < f k) (hnm : n ≤ m) : pw_w f n ≤ pw_w f m := by
  induction m with
  | zero => have : n = 0 := by omega
            subst this; exact Nat.le_refl _
  | succ m ih =>
    by_cases e : n = m + 1
    · subst e; exact Nat.le_refl _
    · have h1 := ih (fun k hk => h k (Nat.lt_succ_of_lt hk)) (by omega)
      have h2 : pw_w f m * 1 ≤ pw_w f m * f m := Nat.mul_le_mul_left _ (h m (Nat.lt_succ_self m))
      show pw_w f n ≤ pw_w f m * f m
      omega
end
section
/-! Rounding down to a base times a power of two; the cycle of builders 1 and 2. -/
def pw_rnd : Nat → Nat → Nat → Nat
  | 0, v, _ => v
  | f + 1, v, s => if 2 * v ≤ s then pw_rnd f (2 * v) s else v
theorem pw_rnd_pow : ∀ (f v s : Nat), ∃ j, j ≤ f ∧ pw_rnd f v s = v * 2 ^ j := by
  intro f
  induction f with
  | zero => intro v s; exact ⟨0, Nat.le_refl 0, by simp [pw_rnd]⟩
  | succ f ih =>
    intro v s
    unfold pw_rnd
    split
    · obtain ⟨j, hj, e⟩ := ih (2 * v) s
      exact ⟨j + 1, by omega, by rw [e, Nat.pow_succ]; simp only [Nat.mul_comm, Nat.mul_left_comm, Nat.mul_assoc]⟩
    · exact ⟨0, by omega, by simp⟩
theorem pw_rnd_le : ∀ (f v s : Nat), v ≤ s → pw_rnd f v s ≤ s := by
  intro f
  induction f with
  | zero => intro v s h; exact h
  | succ f ih =>
    intro v s h
    unfold pw_rnd
    split
    · exact ih _ _ (by omega)
    · exact h
theorem pw_rnd_ge : ∀ (f v s : Nat), v ≤ pw_rnd f v s := by
  intro f
  induction f with
  | zero => intro v s; exact Nat.le_refl v
  | succ f ih =>
    intro v s
    unfold pw_rnd
    split
    · have := ih (2 * v) s; omega
    · exact Nat.le_refl v
/-- two of one base: one is a multiple of the other -/
theorem pw_pow_dvd {b i j : Nat} (h : b * 2 ^ i ≤ b * 2 ^ j) (hb : 0 < b) : b * 2 ^ i ∣ b * 2 ^ j := by
  have hij : i ≤ j := by
    by_cases hx : i ≤ j
    · exact hx
    · have h1 : 2 ^ (j + 1) ≤ 2 ^ i := Nat.pow_le_pow_right (by decide) (by omega)
      have h2 : 2 ^ (j + 1) = 2 ^ j * 2 := Nat.pow_succ ..
      have h3 : 0 < 2 ^ j := Nat.pow_pos (by decide)
      have h4 : b * 2 ^ j < b * 2 ^ i := Nat.mul_lt_mul_of_pos_left (by omega) hb
      omega
  exact Nat.mul_dvd_mul_left b (Nat.pow_dvd_pow 2 hij)
/-- the rounded spans -/
def pw_r (b : Nat) (sp : Nat → Nat) (k : Nat) : Nat := pw_rnd 6 b (sp k)
theorem pw_r_dvd {b : Nat} {sp : Nat → Nat} {i j : Nat} (hb : 0 < b) (h : pw_r b sp i ≤ pw_r b sp j) : pw_r b sp i ∣ pw_r b sp j := by
  obtain ⟨x, -, ex⟩ := pw_rnd_pow 6 b (sp i)
  obtain ⟨y, -, ey⟩ := pw_rnd_pow 6 b (sp j)
  unfold pw_r at h ⊢
  rw [ex, ey] at h ⊢
  exact pw_pow_dvd h hb
theorem pw_r_pos {b : Nat} {sp : Nat → Nat} {i : Nat} (hb : 0 < b) : 0 < pw_r b sp i := Nat.lt_of_lt_of_le hb (pw_rnd_ge 6 b (sp i))
/-- the greatest, 1 for none -/
def pw_mx (r : Nat → Nat) : Nat → Nat
  | 0 => 1
  | k + 1 => max (pw_mx r k) (r k)
theorem pw_mx_ge {r : Nat → Nat} {n : Nat} : ∀ k, k < n → r k ≤ pw_mx r n := by
  induction n with
  | zero => intro k hk; exact absurd hk (Nat.not_lt_zero k)
  | succ n ih =>
    intro k hk
    show r k ≤ max (pw_mx r n) (r n)
    by_cases e : k = n
    · subst e; exact Nat.le_max_right _ _
    · exact Nat.le_trans (ih k (by omega)) (Nat.le_max_left _ _)
theorem pw_mx_pos {r : Nat → Nat} : ∀ n, 0 < pw_mx r n := by
  intro n
  induction n with
  | zero => exact Nat.one_pos
  | succ n ih => exact Nat.lt_of_lt_of_le ih (Nat.le_max_left _ _)
theorem pw_mx_is {r : Nat → Nat} {n : Nat} (hn : 0 < n) (hr : ∀ k, k < n → 0 < r k) : ∃ k, k < n ∧ pw_mx r n = r k := by
  induction n with
  | zero => exact absurd hn (Nat.lt_irrefl 0)
  | succ n ih =>
    by_cases h0 : n = 0
    · subst h0
      refine ⟨0, Nat.one_pos, ?_⟩
      show max 1 (r 0) = r 0
      have := hr 0 Nat.one_pos
      omega
    · obtain ⟨k, hk, e⟩ := ih (by omega) fun k hk => hr k (by omega)
      by_cases h1 : pw_mx r n ≤ r n
      · exact ⟨n, by omega, Nat.max_eq_right h1⟩
      · exact ⟨k, by omega, by show max (pw_mx r n) (r n) = r k; rw [Nat.max_eq_left (by omega), e]⟩
theorem pw_mx_le {r : Nat → Nat} {n b : Nat} (hb : 1 ≤ b) (h : ∀ k, k < n → r k ≤ b) : pw_mx r n ≤ b := by
  induction n with
  | zero => exact hb
  | succ n ih => exact Nat.max_le.mpr ⟨ih fun k hk => h k (by omega), h n (by omega)⟩
/-- how many places the clients want in all -/
def pw_nd2 (b : Nat) (sp : Nat → Nat) (n : Nat) : Nat := pw_sm (fun k => pw_mx (pw_r b sp) n / pw_r b sp k) n
def pw_fit (b : Nat) (sp : Nat → Nat) (n : Nat) : Prop := pw_nd2 b sp n ≤ pw_mx (pw_r b sp) n
/-- the first free place below L, or L -/
def pw_ff (c : Nat → Nat) : Nat → Nat → Nat
  | 0, p => p
  | f + 1, p => if c p = 0 then p else pw_ff c f (p + 1)
theorem pw_ff_spec (c : Nat → Nat) : ∀ f p, p ≤ pw_ff c f p ∧ pw_ff c f p ≤ p + f ∧ (∀ j, p ≤ j → j < pw_ff c f p → c j ≠ 0) ∧ (pw_ff c f p < p + f → c (pw_ff c f p) = 0) := by
  intro f
  induction f with
  | zero => intro p; exact ⟨Nat.le_refl p, Nat.le_refl p, fun j h1 h2 => absurd (Nat.lt_of_le_of_lt h1 h2) (Nat.lt_irrefl p), fun h => absurd h (Nat.lt_irrefl p)⟩
  | succ f ih =>
    intro p
    unfold pw_ff
    by_cases h : c p = 0
    · rw [if_pos h]
      exact ⟨Nat.le_refl p, by omega, fun j h1 h2 => absurd (Nat.lt_of_le_of_lt h1 h2) (Nat.lt_irrefl p), fun _ => h⟩
    · rw [if_neg h]
      obtain ⟨h1, h2, h3, h4⟩ := ih (p + 1)
      refine ⟨by omega, by omega, fun j hj hj' => ?_, fun hlt => h4 (by omega)⟩
      by_cases e : j = p
      · subst e; exact h
      · exact h3 j (by omega) hj'
/-- a client gets the first free place, and every one that lies a multiple of r behind -/
def pw_gv (L id r : Nat) (c : Nat → Nat) : Nat → Nat := fun j => if pw_ff c L 0 ≤ j ∧ j < L ∧ (j - pw_ff c L 0) % r = 0 then id else c j
/-- the cycle: one after another -/
def pw_cy (L : Nat) (id r : Nat → Nat) (l : List Nat) : Nat → Nat := l.foldl (fun c k => pw_gv L (id k) (r k) c) (fun _ => 0)
theorem pw_cy_add {L : Nat} {id r : Nat → Nat} {l : List Nat} {k : Nat} : pw_cy L id r (l ++ [k]) = pw_gv L (id k) (r k) (pw_cy L id r l) := by
  unfold pw_cy; rw [List.foldl_append]; rfl
/-- counting below L -/
theorem pw_ct_res {L r f : Nat} (hr : 0 < r) (hd : r ∣ L) (hf : f < r) : pw_ct (fun j => decide (j % r = f)) L = L / r := by
  obtain ⟨q, rfl⟩ := hd
  rw [Nat.mul_div_cancel_left q hr]
  have key : ∀ n, n ≤ r → ∀ q, pw_ct (fun j => decide (j % r = f)) (r * q + n) = pw_ct (fun j => decide (j % r = f)) (r * q) + (if f < n then 1 else 0) := by
    intro n
    induction n with
    | zero => intro _ q; simp
    | succ n ih =>
      intro hn q
      show pw_ct _ (r * q + n) + (if decide ((r * q + n) % r = f) = true then 1 else 0) = _
      rw [ih (by omega) q, Nat.mul_add_mod, Nat.mod_eq_of_lt (by omega : n < r)]
      by_cases e : n = f
      · subst e; simp
      · have h1 : (f < n + 1) = (f < n) := by apply propext; omega
        simp [e, h1]
  induction q with
  | zero => rfl
  | succ q ih =>
    rw [Nat.mul_succ, key r (Nat.le_refl r) q, ih, if_pos hf]
theorem pw_ct_or {p q : Nat → Bool} : ∀ n, pw_ct (fun j => p j || q j) n ≤ pw_ct p n + pw_ct q n := by
  intro n
  induction n with
  | zero => exact Nat.le_refl 0
  | succ n ih =>
    show pw_ct _ n + (if (p n || q n) = true then 1 else 0) ≤ pw_ct p n + (if p n = true then 1 else 0) + (pw_ct q n + (if q n = true then 1 else 0))
    cases p n <;> cases q n <;> simp <;> omega
/-- what stands behind some clients, one after another in the order -/
def pw_H (L : Nat) (id r : Nat → Nat) (l : List Nat) (c : Nat → Nat) : Prop :=
  (∀ k ∈ l, ∃ f, f < r k ∧ ∀ j, j < L → (c j = id k ↔ j % r k = f)) ∧ (∀ j, j < L → (c j = 0 ∨ ∃ k ∈ l, c j = id k)) ∧ (∀ j, L ≤ j → c j = 0)
theorem pw_H_few {L : Nat} {id r : Nat → Nat} (hd : ∀ k, r k ∣ L ∨ True) : ∀ (l : List Nat) (g : Nat → Nat), (∀ k ∈ l, 0 < r k ∧ r k ∣ L ∧ g k < r k) → pw_ct (fun j => l.any (fun k => decide (j % r k = g k))) L ≤ (l.map (fun k => L / r k)).sum := by
  intro l g
  induction l with
  | nil =>
    intro _
    have h3 : ∀ n, pw_ct (fun _ => false) n = 0 := by
      intro n
      induction n with
      | zero => rfl
      | succ n ih => show pw_ct _ n + (if false = true then 1 else 0) = 0; rw [ih]; rfl
    simp [h3]
  | cons x t ih =>
    intro h
    obtain ⟨h1, h2, h3⟩ := h x List.mem_cons_self
    have h4 := ih fun k hk => h k (List.mem_cons_of_mem _ hk)
    have h5 := pw_ct_or (p := fun j => decide (j % r x = g x)) (q := fun j => t.any (fun k => decide (j % r k = g k))) L
    rw [pw_ct_res h1 h2 h3] at h5
    simp only [List.any_cons, List.map_cons, List.sum_cons]
    omega
/-- there is a free place for the next one, below its rounded span -/
theorem pw_H_free {L : Nat} {id r : Nat → Nat} {l : List Nat} {c : Nat → Nat} {x : Nat} (h : pw_H L id r l c) (hid : ∀ k ∈ l, 0 < id k) (hL : 0 < L) (hr : ∀ k ∈ l, 0 < r k ∧ r k ∣ r x) (hx : 0 < r x ∧ r x ∣ L) (hs : (l.map (fun k => L / r k)).sum + L / r x ≤ L) :
    pw_ff c L 0 < r x ∧ pw_ff c L 0 < L ∧ ∀ j, j < L → (c j = 0 ↔ c (j % r x) = 0) := by
  obtain ⟨h1, h2, h3⟩ := h
  have hc : ∀ k, ∃ f, k ∈ l → f < r k ∧ ∀ j, j < L → (c j = id k ↔ j % r k = f) := fun k => by
    by_cases hk : k ∈ l
    · obtain ⟨f, hf⟩ := h1 k hk
      exact ⟨f, fun _ => hf⟩
    · exact ⟨0, fun h => absurd h hk⟩
  obtain ⟨g, hg⟩ : ∃ g : Nat → Nat, ∀ k, k ∈ l → g k < r k ∧ ∀ j, j < L → (c j = id k ↔ j % r k = g k) := ⟨fun k => Classical.choose (hc k), fun k => Classical.choose_spec (hc k)⟩
  have hocc : ∀ j, j < L → (c j = 0 ↔ ∀ k ∈ l, j % r k ≠ g k) := by
    intro j hj
    constructor
    · intro h0 k hk e
      have e2 := ((hg k hk).2 j hj).mpr e
      have := hid k hk
      omega
    · intro hall
      rcases h2 j hj with h0 | ⟨k, hk, e⟩
      · exact h0
      · exact absurd (((hg k hk).2 j hj).mp e) (hall k hk)
  have hper : ∀ j, j < L → (c j = 0 ↔ c (j % r x) = 0) := by
    intro j hj
    have hj2 : j % r x < L := Nat.lt_of_le_of_lt (Nat.mod_le _ _) hj
    rw [hocc j hj, hocc _ hj2]
    constructor
    · intro hall k hk
      rw [Nat.mod_mod_of_dvd j (hr k hk).2]
      exact hall k hk
    · intro hall k hk
      have := hall k hk
      rw [Nat.mod_mod_of_dvd j (hr k hk).2] at this
      exact this
  have hfew := pw_H_few (L := L) (id := id) (r := r) (fun _ => Or.inr trivial) l g fun k hk => ⟨(hr k hk).1, Nat.dvd_trans (hr k hk).2 hx.2, (hg k hk).1⟩
  have hq : 0 < L / r x := Nat.div_pos (Nat.le_of_dvd hL hx.2) hx.1
  have hex : ∃ j, j < L ∧ c j = 0 := by
    by_cases hno : ∃ j, j < L ∧ c j = 0
    · exact hno
    · exfalso
      have hall : pw_ct (fun j => l.any (fun k => decide (j % r k = g k))) L = pw_ct (fun _ => true) L := pw_ct_congr fun j hj => by
        cases hb : l.any (fun k => decide (j % r k = g k)) with
        | true => rfl
        | false =>
          refine absurd ⟨j, hj, (hocc j hj).mpr fun k hk e => ?_⟩ hno
          rw [List.any_eq_false] at hb
          exact hb k hk (decide_eq_true e)
      have h2 : ∀ n, pw_ct (fun _ => true) n = n := by
        intro n
        induction n with
        | zero => rfl
        | succ n ih => show pw_ct _ n + (if true = true then 1 else 0) = n + 1; rw [ih]; rfl
      rw [hall, h2] at hfew
      omega
  obtain ⟨j, hj, h0⟩ := hex
  have h0' := (hper j hj).mp h0
  obtain ⟨-, f2, f3, -⟩ := pw_ff_spec c L 0
  have hlt : pw_ff c L 0 ≤ j % r x := by
    by_cases hx2 : pw_ff c L 0 ≤ j % r x
    · exact hx2
    · exact absurd h0' (f3 (j % r x) (Nat.zero_le _) (by omega))
  have := Nat.mod_lt j hx.1
  have := Nat.mod_le j (r x)
  exact ⟨by omega, by omega, hper⟩
/-- the next one has its places, the others keep theirs -/
theorem pw_H_add {L : Nat} {id r : Nat → Nat} {l : List Nat} {c : Nat → Nat} {x : Nat} (h : pw_H L id r l c) (hid : ∀ k ∈ l, 0 < id k ∧ id k ≠ id x) (hx0 : 0 < id x) (hL : 0 < L) (hr : ∀ k ∈ l, 0 < r k ∧ r k ∣ r x) (hx : 0 < r x ∧ r x ∣ L) (hs : (l.map (fun k => L / r k)).sum + L / r x ≤ L) :
    pw_H L id r (l ++ [x]) (pw_gv L (id x) (r x) c) := by
  obtain ⟨f1, f2, f3⟩ := pw_H_free h (fun k hk => (hid k hk).1) hL hr hx hs
  obtain ⟨-, -, -, f4⟩ := pw_ff_spec c L 0
  have f5 := f4 (by omega)
  obtain ⟨h1, h2, h3⟩ := h
  have hin : ∀ j, (pw_ff c L 0 ≤ j ∧ j < L ∧ (j - pw_ff c L 0) % r x = 0) ↔ (j < L ∧ j % r x = pw_ff c L 0) := by
    intro j
    constructor
    · intro ⟨a, b, e⟩
      refine ⟨b, ?_⟩
      obtain ⟨q, hq⟩ := Nat.dvd_of_mod_eq_zero e
      have e2 : j = r x * q + pw_ff c L 0 := by omega
      rw [e2, Nat.mul_add_mod, Nat.mod_eq_of_lt f1]
    · intro ⟨b, e⟩
      have e2 := Nat.div_add_mod j (r x)
      rw [e] at e2
      refine ⟨by omega, b, ?_⟩
      have e3 : j - pw_ff c L 0 = r x * (j / r x) := by omega
      rw [e3, Nat.mul_mod_right]
  have hfree : ∀ j, j < L → j % r x = pw_ff c L 0 → c j = 0 := fun j hj e => (f3 j hj).mpr (by rw [e]; exact f5)
  have hval : ∀ j, pw_gv L (id x) (r x) c j = if j < L ∧ j % r x = pw_ff c L 0 then id x else c j := by
    intro j
    unfold pw_gv
    by_cases hj : j < L ∧ j % r x = pw_ff c L 0
    · rw [if_pos hj, if_pos ((hin j).mpr hj)]
    · rw [if_neg hj, if_neg fun z => hj ((hin j).mp z)]
  refine ⟨?_, ?_, ?_⟩
  · intro k hk
    rcases List.mem_append.mp hk with hk | hk
    · obtain ⟨f, hf, hfj⟩ := h1 k hk
      refine ⟨f, hf, fun j hj => ?_⟩
      rw [hval j, ← hfj j hj]
      by_cases e : j % r x = pw_ff c L 0
      · rw [if_pos ⟨hj, e⟩]
        have h0 := hfree j hj e
        have h9 := hid k hk
        constructor
        · intro z; exact absurd z.symm h9.2
        · intro z; omega
      · rw [if_neg fun z => e z.2]
    · have : k = x := by simpa using hk
      subst this
      refine ⟨pw_ff c L 0, f1, fun j hj => ?_⟩
      rw [hval j]
      by_cases e : j % r k = pw_ff c L 0
      · rw [if_pos ⟨hj, e⟩]; exact ⟨fun _ => e, fun _ => rfl⟩
      · rw [if_neg fun z => e z.2]
        refine ⟨fun z => ?_, fun z => absurd z e⟩
        rcases h2 j hj with h0 | ⟨k', hk', e'⟩
        · omega
        · exact absurd (e'.symm.trans z) (hid k' hk').2
  · intro j hj
    rw [hval j]
    by_cases e : j < L ∧ j % r x = pw_ff c L 0
    · rw [if_pos e]; exact Or.inr ⟨x, List.mem_append_right _ List.mem_cons_self, rfl⟩
    · rw [if_neg e]
      rcases h2 j hj with h0 | ⟨k, hk, e'⟩
      · exact Or.inl h0
      · exact Or.inr ⟨k, List.mem_append_left _ hk, e'⟩
  · intro j hj
    rw [hval j, if_neg (by omega)]
    exact h3 j hj
theorem pw_H_0 {L : Nat} {id r : Nat → Nat} : pw_H L id r [] (fun _ => 0) := ⟨fun k hk => absurd hk List.not_mem_nil, fun j _ => Or.inl rfl, fun _ _ => rfl⟩
/-- all that is asked of a set: ids apart and above 0, a base -/
def pw_S (n : Nat) (id sp : Nat → Nat) (b : Nat) : Prop := 0 < b ∧ (∀ k, k < n → 0 < id k) ∧ ∀ i j, i < n → j < n → id i = id j → i = j
theorem pw_mx_dvd {b : Nat} {sp : Nat → Nat} {n k : Nat} (hb : 0 < b) (hk : k < n) : pw_r b sp k ∣ pw_mx (pw_r b sp) n := by
  obtain ⟨j, hj, e⟩ := pw_mx_is (r := pw_r b sp) (n := n) (by omega) fun i _ => pw_r_pos hb
  rw [e]
  exact pw_r_dvd hb (by rw [← e]; exact pw_mx_ge k hk)
/-- behind each of the clients in their order -/
theorem pw_cy_H {n : Nat} {id sp : Nat → Nat} {b : Nat} (h : pw_S n id sp b) (hf : pw_fit b sp n) : ∀ i, i ≤ n → pw_H (pw_mx (pw_r b sp) n) id (pw_r b sp) ((pw_srt (pw_r b sp) n).take i) (pw_cy (pw_mx (pw_r b sp) n) id (pw_r b sp) ((pw_srt (pw_r b sp) n).take i)) ∧
    (i < n → pw_ff (pw_cy (pw_mx (pw_r b sp) n) id (pw_r b sp) ((pw_srt (pw_r b sp) n).take i)) (pw_mx (pw_r b sp) n) 0 < pw_mx (pw_r b sp) n) := by
  have hlen := pw_srt_len (r := pw_r b sp) n
  have hsum : ((pw_srt (pw_r b sp) n).map (fun k => pw_mx (pw_r b sp) n / pw_r b sp k)).sum ≤ pw_mx (pw_r b sp) n := by rw [pw_srt_sum]; exact hf
  have hpre : ∀ i, i < n → (((pw_srt (pw_r b sp) n).take i).map (fun k => pw_mx (pw_r b sp) n / pw_r b sp k)).sum + pw_mx (pw_r b sp) n / pw_r b sp ((pw_srt (pw_r b sp) n).getD i 0) ≤ pw_mx (pw_r b sp) n := by
    intro i hi
    have e : pw_srt (pw_r b sp) n = (pw_srt (pw_r b sp) n).take (i + 1) ++ (pw_srt (pw_r b sp) n).drop (i + 1) := (List.take_append_drop _ _).symm
    rw [List.take_succ_eq_append_getElem (by omega)] at e
    rw [e] at hsum
    rw [pw_getD _ _ (by omega)]
    simp only [List.map_append, List.sum_append, List.map_cons, List.map_nil, List.sum_cons, List.sum_nil] at hsum
    omega
  have hside : ∀ i, i < n → (∀ k ∈ (pw_srt (pw_r b sp) n).take i, 0 < pw_r b sp k ∧ pw_r b sp k ∣ pw_r b sp ((pw_srt (pw_r b sp) n).getD i 0)) ∧ (∀ k ∈ (pw_srt (pw_r b sp) n).take i, 0 < id k ∧ id k ≠ id ((pw_srt (pw_r b sp) n).getD i 0)) := by
    intro i hi
    have hmem : ∀ k ∈ (pw_srt (pw_r b sp) n).take i, ∃ j, j < i ∧ (pw_srt (pw_r b sp) n).getD j 0 = k := by
      intro k hk
      obtain ⟨j, hj, e⟩ := List.getElem_of_mem hk
      rw [List.length_take] at hj
      refine ⟨j, by omega, ?_⟩
      rw [List.getElem_take] at e
      rw [pw_getD _ _ (by omega)]
      exact e
    refine ⟨fun k hk => ?_, fun k hk => ?_⟩
    · obtain ⟨j, hj, e⟩ := hmem k hk
      have h1 := pw_srt_le (r := pw_r b sp) j i hj hi
      rw [e] at h1
      refine ⟨pw_r_pos h.1, pw_r_dvd h.1 ?_⟩
      unfold pw_lt at h1
      omega
    · obtain ⟨j, hj, e⟩ := hmem k hk
      have hk2 : k < n := by rw [← e]; exact pw_srt_get (by omega)
      refine ⟨h.2.1 k hk2, fun z => ?_⟩
      have h2 := h.2.2 _ _ hk2 (pw_srt_get hi) z
      rw [← e] at h2
      have := pw_srt_inj (by omega) hi h2
      omega
  have hx : ∀ i, i < n → 0 < pw_r b sp ((pw_srt (pw_r b sp) n).getD i 0) ∧ pw_r b sp ((pw_srt (pw_r b sp) n).getD i 0) ∣ pw_mx (pw_r b sp) n := fun i hi => ⟨pw_r_pos h.1, pw_mx_dvd h.1 (pw_srt_get hi)⟩
  have main : ∀ i, i ≤ n → pw_H (pw_mx (pw_r b sp) n) id (pw_r b sp) ((pw_srt (pw_r b sp) n).take i) (pw_cy (pw_mx (pw_r b sp) n) id (pw_r b sp) ((pw_srt (pw_r b sp) n).take i)) := by
    intro i
    induction i with
    | zero => intro _; exact pw_H_0
    | succ i ih =>
      intro hi
      have h1 := ih (by omega)
      obtain ⟨s1, s2⟩ := hside i (by omega)
      have h2 := pw_H_add h1 s2 (h.2.1 _ (pw_srt_get (by omega))) (pw_mx_pos n) s1 (hx i (by omega)) (hpre i (by omega))
      rw [List.take_succ_eq_append_getElem (by omega), ← pw_getD _ 0 (by omega), pw_cy_add]
      exact h2
  intro i hi
  refine ⟨main i hi, fun hlt => ?_⟩
  obtain ⟨s1, s2⟩ := hside i hlt
  exact (pw_H_free (main i hi) (fun k hk => (s2 k hk).1) (pw_mx_pos n) s1 (hx i hlt) (hpre i hlt)).2.1
/-- the whole cycle -/
def pw_CY (b n : Nat) (id sp : Nat → Nat) : Nat → Nat := pw_cy (pw_mx (pw_r b sp) n) id (pw_r b sp) (pw_srt (pw_r b sp) n)
theorem pw_CY_has {n : Nat} {id sp : Nat → Nat} {b : Nat} (h : pw_S n id sp b) (hf : pw_fit b sp n) : ∀ k, k < n → ∃ j, j < pw_mx (pw_r b sp) n ∧ pw_CY b n id sp j = id k := by
  intro k hk
  have hH := (pw_cy_H h hf n (Nat.le_refl n)).1
  rw [List.take_of_length_le (by rw [pw_srt_len]; exact Nat.le_refl n)] at hH
  obtain ⟨f, hf1, hf2⟩ := hH.1 k ((pw_srt_mem n).mpr hk)
  have hle := Nat.le_of_dvd (pw_mx_pos (r := pw_r b sp) n) (pw_mx_dvd (sp := sp) h.1 hk)
  exact ⟨f, by omega, (hf2 f (by omega)).mpr (Nat.mod_eq_of_lt hf1)⟩
/-- who leaves makes no trouble -/
theorem pw_fit_sub {b n n' : Nat} {sp sp' : Nat → Nat} (hb : 0 < b) (hf : pw_fit b sp n) (g : Nat → Nat) (hg : ∀ k, k < n' → g k < n ∧ sp' k = sp (g k)) (hi : ∀ i j, i < j → j < n' → g i < g j) : pw_fit b sp' n' := by
  have hr : ∀ k, k < n' → pw_r b sp' k = pw_r b sp (g k) := fun k hk => by unfold pw_r; rw [(hg k hk).2]
  by_cases h0 : n' = 0
  · subst h0
    exact Nat.zero_le _
  · obtain ⟨a, ha, ea⟩ := pw_mx_is (r := pw_r b sp') (n := n') (by omega) fun i _ => pw_r_pos hb
    have hdvd : pw_mx (pw_r b sp') n' ∣ pw_mx (pw_r b sp) n := by
      rw [ea, hr a ha]
      exact pw_mx_dvd hb (hg a ha).1
    obtain ⟨q, hq⟩ := hdvd
    have hLp := pw_mx_pos (r := pw_r b sp) n
    have hLp' := pw_mx_pos (r := pw_r b sp') n'
    have hq0 : 0 < q := by
      refine Nat.pos_of_ne_zero fun z => ?_
      rw [z] at hq
      omega
    have hterm : ∀ k, k < n' → q * (pw_mx (pw_r b sp') n' / pw_r b sp' k) = pw_mx (pw_r b sp) n / pw_r b sp (g k) := by
      intro k hk
      rw [← hr k hk, hq, Nat.mul_comm _ q, Nat.mul_div_assoc q (pw_mx_dvd hb hk)]
    have hsub : ∀ (f : Nat → Nat) m, m ≤ n' → ∀ M, (∀ k, k < m → g k < M) → pw_sm (fun k => f (g k)) m ≤ pw_sm f M := by
      intro f m
      induction m with
      | zero => intro _ M _; exact Nat.zero_le _
      | succ m ih =>
        intro hm M hM
        have h1 := ih (by omega) (g m) fun k hk => hi k m hk (by omega)
        have h2 : ∀ M', g m < M' → pw_sm f (g m) + f (g m) ≤ pw_sm f M' := by
          intro M'
          induction M' with
          | zero => intro h; exact absurd h (Nat.not_lt_zero _)
          | succ M' ih2 =>
            intro h
            by_cases e : g m = M'
            · rw [e]; exact Nat.le_refl _
            · have := ih2 (by omega)
              show _ ≤ pw_sm f M' + f M'
              omega
        have h3 := h2 M (hM m (Nat.lt_succ_self m))
        show pw_sm (fun k => f (g k)) m + f (g m) ≤ pw_sm f M
        omega
    have hscale : ∀ m, m ≤ n' → q * pw_sm (fun k => pw_mx (pw_r b sp') n' / pw_r b sp' k) m = pw_sm (fun k => pw_mx (pw_r b sp) n / pw_r b sp (g k)) m := by
      intro m
      induction m with
      | zero => intro _; rfl
      | succ m ih =>
        intro hm
        show q * (pw_sm _ m + _) = pw_sm _ m + _
        rw [Nat.mul_add, ih (by omega), hterm m (by omega)]
    have h1 := hscale n' (Nat.le_refl n')
    have h2 := hsub (fun k => pw_mx (pw_r b sp) n / pw_r b sp k) n' (Nat.le_refl n') n fun k hk => (hg k hk).1
    have h3 : pw_nd2 b sp n ≤ pw_mx (pw_r b sp) n := hf
    unfold pw_nd2 at h3
    have h4 : q * pw_nd2 b sp' n' ≤ q * pw_mx (pw_r b sp') n' := by
      unfold pw_nd2
      rw [h1, Nat.mul_comm q (pw_mx (pw_r b sp') n'), ← hq]
      exact Nat.le_trans h2 h3
    exact Nat.le_of_mul_le_mul_left h4 hq0
end
section
/-! Divisions with a rest, one after another; the sum of 1 by the spans. -/
def pw_eu : Nat → Nat → Nat → Nat
  | 0, a, _ => a
  | f + 1, a, b => if b = 0 then a else pw_eu f b (a % b)
/-- it has come to its end within so many -/
def pw_ed : Nat → Nat → Nat → Prop
  | 0, _, b => b = 0
  | f + 1, a, b => b = 0 ∨ pw_ed f b (a % b)
theorem pw_ed_0 : ∀ f a, pw_ed f a 0 := by
  intro f a
  cases f with
  | zero => exact rfl
  | succ f => exact Or.inl rfl
theorem pw_ed_mono : ∀ {f g a b : Nat}, f ≤ g → pw_ed f a b → pw_ed g a b := by
  intro f
  induction f with
  | zero => intro g a b _ h; have h : b = 0 := h; subst h; exact pw_ed_0 g a
  | succ f ih =>
    intro g a b hfg h
    cases g with
    | zero => omega
    | succ g =>
      rcases h with h | h
      · exact Or.inl h
      · exact Or.inr (ih (by omega) h)
theorem pw_mod_sum {a b : Nat} (hb : 0 < b) (h : b ≤ a) : b + a % b ≤ a := by
  have h1 := Nat.div_add_mod a b
  have h2 : 0 < a / b := Nat.div_pos h hb
  have h3 : b * 1 ≤ b * (a / b) := Nat.mul_le_mul_left b h2
  omega
theorem pw_ed_fast : ∀ (n a b : Nat), b < 5 ^ n → pw_ed (4 * n) a b := by
  intro n
  induction n with
  | zero => intro a b h; show b = 0; simp at h; exact h
  | succ n ih =>
    intro a b h
    show pw_ed (4 * n + 1 + 1 + 1 + 1) a b
    by_cases h0 : b = 0
    · exact Or.inl h0
    refine Or.inr ?_
    have l1 := Nat.mod_lt a (Nat.pos_of_ne_zero h0)
    generalize a % b = r1 at l1 ⊢
    by_cases h1 : r1 = 0
    · exact Or.inl h1
    refine Or.inr ?_
    have l2 := Nat.mod_lt b (Nat.pos_of_ne_zero h1)
    have m2 := pw_mod_sum (Nat.pos_of_ne_zero h1) (Nat.le_of_lt l1)
    generalize b % r1 = r2 at l2 m2 ⊢
    by_cases h2 : r2 = 0
    · exact Or.inl h2
    refine Or.inr ?_
    have l3 := Nat.mod_lt r1 (Nat.pos_of_ne_zero h2)
    have m3 := pw_mod_sum (Nat.pos_of_ne_zero h2) (Nat.le_of_lt l2)
    generalize r1 % r2 = r3 at l3 m3 ⊢
    by_cases h3 : r3 = 0
    · exact Or.inl h3
    refine Or.inr ?_
    have l4 := Nat.mod_lt r2 (Nat.pos_of_ne_zero h3)
    have m4 := pw_mod_sum (Nat.pos_of_ne_zero h3) (Nat.le_of_lt l3)
    generalize r2 % r3 = r4 at l4 m4 ⊢
    refine ih r3 r4 ?_
    have e : 5 ^ (n + 1) = 5 ^ n * 5 := Nat.pow_succ ..
    omega
theorem pw_eu_pos : ∀ (f a b : Nat), 0 < a → 0 < pw_eu f a b := by
  intro f
  induction f with
  | zero => intro a b h; exact h
  | succ f ih =>
    intro a b h
    unfold pw_eu
    split
    · exact h
    · rename_i hb; exact ih _ _ (Nat.pos_of_ne_zero hb)
theorem pw_eu_ed : ∀ (f g a b : Nat), f ≤ g → pw_ed f a b → pw_eu g a b = pw_eu f a b := by
  intro f
  induction f with
  | zero =>
    intro g a b _ h
    have h : b = 0 := h
    subst h
    cases g with
    | zero => rfl
    | succ g => show (if 0 = 0 then a else _) = a; rw [if_pos rfl]
  | succ f ih =>
    intro g a b hfg h
    cases g with
    | zero => omega
    | succ g =>
      show (if b = 0 then a else pw_eu g b (a % b)) = (if b = 0 then a else pw_eu f b (a % b))
      by_cases hb : b = 0
      · rw [if_pos hb, if_pos hb]
      · rw [if_neg hb, if_neg hb]
        exact ih g b (a % b) (by omega) (h.resolve_left hb)
/-- numerator and denominator -/
def pw_de (sp : Nat → Nat) : Nat → Nat × Nat
  | 0 => (0, 1)
  | k + 1 => (((pw_de sp k).1 * sp k + (pw_de sp k).2) / pw_eu 92 ((pw_de sp k).1 * sp k + (pw_de sp k).2) ((pw_de sp k).2 * sp k), ((pw_de sp k).2 * sp k) / pw_eu 92 ((pw_de sp k).1 * sp k + (pw_de sp k).2) ((pw_de sp k).2 * sp k))
theorem pw_de_le {sp : Nat → Nat} {n : Nat} (h : ∀ k, k < n → 0 < sp k ∧ sp k ≤ 40) : ∀ k, k ≤ n → (pw_de sp k).1 * 40 ≤ k * 40 ^ k ∧ (pw_de sp k).2 ≤ 40 ^ k := by
  intro k
  induction k with
  | zero => intro _; exact ⟨Nat.le_refl 0, Nat.le_refl 1⟩
  | succ k ih =>
    intro hk
    obtain ⟨h1, h2⟩ := ih (by omega)
    obtain ⟨h3, h4⟩ := h k (by omega)
    have e : 40 ^ (k + 1) = 40 ^ k * 40 := Nat.pow_succ ..
    have m1 : (pw_de sp k).1 * sp k ≤ (pw_de sp k).1 * 40 := Nat.mul_le_mul_left _ h4
    have m2 : (pw_de sp k).2 * sp k ≤ (pw_de sp k).2 * 40 := Nat.mul_le_mul_left _ h4
    have d1 := Nat.div_le_self ((pw_de sp k).1 * sp k + (pw_de sp k).2) (pw_eu 92 ((pw_de sp k).1 * sp k + (pw_de sp k).2) ((pw_de sp k).2 * sp k))
    have d2 := Nat.div_le_self ((pw_de sp k).2 * sp k) (pw_eu 92 ((pw_de sp k).1 * sp k + (pw_de sp k).2) ((pw_de sp k).2 * sp k))
    have e2 : (k + 1) * 40 ^ (k + 1) = (k * 40 ^ k + 40 ^ k) * 40 := by rw [e, Nat.add_mul k, Nat.one_mul, Nat.add_mul, Nat.mul_assoc]
    refine ⟨?_, ?_⟩
    · show ((pw_de sp k).1 * sp k + (pw_de sp k).2) / _ * 40 ≤ _
      rw [e2]
      refine Nat.mul_le_mul_right 40 ?_
      omega
    · show ((pw_de sp k).2 * sp k) / _ ≤ _
      omega
end
section
/-! Which builder lays which cycle. -/
/-- a base that builder 2 may take -/
def pw_al (sp : Nat → Nat) (n b : Nat) : Prop := (3 ≤ b ∧ b ≤ 15 ∧ b % 2 = 1) ∧ ∀ k, k < n → b ≤ sp k
/-- the first one that fits -/
def pw_b2 (sp : Nat → Nat) (n b : Nat) : Prop := pw_al sp n b ∧ pw_fit b sp n ∧ ∀ b', b' < b → pw_al sp n b' → ¬ pw_fit b' sp n
theorem pw_b2_eq {sp : Nat → Nat} {n b b' : Nat} (h : pw_b2 sp n b) (h' : pw_b2 sp n b') : b = b' := by
  rcases Nat.lt_trichotomy b b' with h1 | h1 | h1
  · exact absurd h.2.1 (h'.2.2 b h1 h.1)
  · exact h1
  · exact absurd h'.2.1 (h.2.2 b' h1 h'.1)
theorem pw_b2_ex {sp : Nat → Nat} {n b : Nat} (h : pw_al sp n b) (h' : pw_fit b sp n) : ∃ b, pw_b2 sp n b := by
  obtain ⟨k, hk, hl⟩ := pk_least (fun b => pw_al sp n b ∧ pw_fit b sp n) ⟨b, h, h'⟩
  exact ⟨k, hk.1, hk.2, fun b' hb' ha hf => hl b' hb' ⟨ha, hf⟩⟩
/-- the order of builder 3 -/
def pw_o (sp : Nat → Nat) (n i : Nat) : Nat := (pw_srt sp n).getD i 0
def pw_os (sp : Nat → Nat) (n i : Nat) : Nat := sp (pw_o sp n i)
def pw_oi (id sp : Nat → Nat) (n i : Nat) : Nat := id (pw_o sp n i)
/-- builder 3 takes them -/
def pw_tk (sp : Nat → Nat) (n : Nat) : Prop := n ≤ 4 ∧ pw_w sp n ≤ 1500
def pw_sf (sp : Nat → Nat) (n : Nat) : Prop := pw_safe n (pw_os sp n) (pw_w (pw_os sp n) n - 1)
theorem pw_os_w (sp : Nat → Nat) (n : Nat) : pw_w (pw_os sp n) n = pw_w sp n := pw_srt_w (r := sp) (f := sp) n
def pw_Bld (n : Nat) (id sp : Nat → Nat) (w L : Nat) (cy : Nat → Nat) : Prop :=
  (w = 1 ∧ pw_fit 1 sp n ∧ L = pw_mx (pw_r 1 sp) n ∧ ∀ j, j < L → cy j = pw_CY 1 n id sp j) ∨
  (w = 2 ∧ ¬ pw_fit 1 sp n ∧ ∃ b, pw_b2 sp n b ∧ L = pw_mx (pw_r b sp) n ∧ ∀ j, j < L → cy j = pw_CY b n id sp j) ∨
  (w = 3 ∧ ¬ pw_fit 1 sp n ∧ (¬ ∃ b, pw_b2 sp n b) ∧ pw_tk sp n ∧ pw_sf sp n ∧ pw_B3 n (pw_os sp n) (pw_oi id sp n) L cy)
/-- all builders fail -/
def pw_no (n : Nat) (sp : Nat → Nat) : Prop := ¬ pw_fit 1 sp n ∧ (¬ ∃ b, pw_b2 sp n b) ∧ ¬ (pw_tk sp n ∧ pw_sf sp n)
theorem pw_Bld_no {n : Nat} {id sp : Nat → Nat} {w L : Nat} {cy : Nat → Nat} (h : pw_Bld n id sp w L cy) (h' : pw_no n sp) : False := by
  obtain ⟨a, b, c⟩ := h'
  rcases h with ⟨-, h, -⟩ | ⟨-, -, x, h, -⟩ | ⟨-, -, -, h1, h2, -⟩
  · exact a h
  · exact b ⟨x, h⟩
  · exact c ⟨h1, h2⟩
theorem pw_Bld_eq {n : Nat} {id sp : Nat → Nat} {w L w' L' : Nat} {cy cy' : Nat → Nat} (h : pw_Bld n id sp w L cy) (h' : pw_Bld n id sp w' L' cy') : w = w' ∧ L = L' ∧ ∀ j, j < L → cy j = cy' j := by
  rcases h with ⟨rfl, h1, rfl, h2⟩ | ⟨rfl, h1, b, h2, rfl, h3⟩ | ⟨rfl, h1, h2, h3, h4, h5⟩ <;> rcases h' with ⟨rfl, g1, rfl, g2⟩ | ⟨rfl, g1, b', g2, rfl, g3⟩ | ⟨rfl, g1, g2, g3, g4, g5⟩
  · exact ⟨rfl, rfl, fun j hj => (h2 j hj).trans (g2 j hj).symm⟩
  · exact absurd h1 g1
  · exact absurd h1 g1
  · exact absurd g1 h1
  · have e := pw_b2_eq h2 g2
    subst e
    exact ⟨rfl, rfl, fun j hj => (h3 j hj).trans (g3 j hj).symm⟩
  · exact absurd ⟨b, h2⟩ g2
  · exact absurd g1 h1
  · exact absurd ⟨b', g2⟩ h2
  · obtain ⟨e1, e2⟩ := pw_B3_eq h5 g5
    exact ⟨rfl, e1, e2⟩
/-- what is known of every set -/
def pw_G (n : Nat) (id sp : Nat → Nat) : Prop := (∀ k, k < n → 0 < id k ∧ id k < 1000) ∧ (∀ i j, i < j → j < n → id i < id j) ∧ ∀ k, k < n → 0 < sp k ∧ sp k ≤ 40
theorem pw_G_inj {n : Nat} {id sp : Nat → Nat} (h : pw_G n id sp) : ∀ i j, i < n → j < n → id i = id j → i = j := by
  intro i j hi hj e
  rcases Nat.lt_trichotomy i j with h1 | h1 | h1
  · have := h.2.1 i j h1 hj; omega
  · exact h1
  · have := h.2.1 j i h1 hi; omega
theorem pw_G_S {n : Nat} {id sp : Nat → Nat} (h : pw_G n id sp) {b : Nat} (hb : 0 < b) : pw_S n id sp b := ⟨hb, fun k hk => (h.1 k hk).1, pw_G_inj h⟩
theorem pw_mx_40 {n : Nat} {sp : Nat → Nat} {b : Nat} (h : ∀ k, k < n → sp k ≤ 40) (hb : ∀ k, k < n → b ≤ sp k) : pw_mx (pw_r b sp) n ≤ 40 := pw_mx_le (by decide) fun k hk => Nat.le_trans (pw_rnd_le 6 b (sp k) (hb k hk)) (h k hk)
theorem pw_os_pos {n : Nat} {id sp : Nat → Nat} (h : pw_G n id sp) : ∀ k, k < n → 0 < pw_os sp n k := fun k hk => (h.2.2 _ (pw_srt_get hk)).1
theorem pw_B3_len {K : Nat} {sp id : Nat → Nat} {L : Nat} {cy : Nat → Nat} (h : pw_B3 K sp id L cy) : L ≤ pw_w sp K := by
  obtain ⟨st, tn, T, fr, hp, hf, he, hd, hL, hc⟩ := h
  have := pw_P_few hp hd
  omega
/-- a cycle has places, not too many, and every client has one -/
theorem pw_Bld_has {n : Nat} {id sp : Nat → Nat} {w L : Nat} {cy : Nat → Nat} (hG : pw_G n id sp) (h : pw_Bld n id sp w L cy) : 0 < L ∧ L ≤ 1500 ∧ (1 ≤ w ∧ w ≤ 3) ∧ ∀ k, k < n → ∃ j, j < L ∧ cy j = id k := by
  rcases h with ⟨rfl, h1, rfl, h2⟩ | ⟨rfl, h1, b, h2, rfl, h3⟩ | ⟨rfl, h1, h2, h3, h4, h5⟩
  · refine ⟨pw_mx_pos n, ?_, by decide, fun k hk => ?_⟩
    · have := pw_mx_40 (b := 1) (fun k hk => (hG.2.2 k hk).2) fun k hk => (hG.2.2 k hk).1
      omega
    · obtain ⟨j, hj, e⟩ := pw_CY_has (pw_G_S hG Nat.one_pos) h1 k hk
      exact ⟨j, hj, (h2 j hj).trans e⟩
  · refine ⟨pw_mx_pos n, ?_, by decide, fun k hk => ?_⟩
    · have := pw_mx_40 (b := b) (fun k hk => (hG.2.2 k hk).2) h2.1.2
      omega
    · obtain ⟨j, hj, e⟩ := pw_CY_has (pw_G_S hG (by have := h2.1.1.1; omega)) h2.2.1 k hk
      exact ⟨j, hj, (h3 j hj).trans e⟩
  · obtain ⟨h6, h7⟩ := pw_B3_has (pw_os_pos hG) h5
    refine ⟨h6, ?_, by decide, fun k hk => ?_⟩
    · have h8 := pw_B3_len h5
      rw [pw_os_w] at h8
      have := h3.2
      omega
    · obtain ⟨i, hi, e⟩ := pw_srt_all (r := sp) hk
      obtain ⟨j, hj, e2⟩ := h7 i hi
      exact ⟨j, hj, by rw [e2]; show id ((pw_srt sp n).getD i 0) = id k; rw [e]⟩
/-- the exact decision doesn't hang on the order -/
theorem pw_sf_iff {n : Nat} {id sp : Nat → Nat} (hG : pw_G n id sp) (hn : 0 < n) : pw_sf sp n ↔ pw_safe n sp (pw_w sp n - 1) := by
  have hsp : ∀ k, k < n → 0 < sp k := fun k hk => (hG.2.2 k hk).1
  constructor
  · intro h
    have h1 := pw_safe_sched (id := pw_oi id sp n) (pw_os_pos hG) h
    refine pw_sched_safe (id := id) hn hsp (pw_G_inj hG) (pw_sched_set (fun k hk => ?_) h1)
    obtain ⟨i, hi, e⟩ := pw_srt_all (r := sp) hk
    exact ⟨i, hi, by show id ((pw_srt sp n).getD i 0) = id k; rw [e], by show sp ((pw_srt sp n).getD i 0) ≤ sp k; rw [e]; exact Nat.le_refl _⟩
  · intro h
    have h1 := pw_safe_sched (id := id) hsp h
    refine pw_sched_safe (id := pw_oi id sp n) hn (pw_os_pos hG) (fun i j hi hj e => ?_) (pw_sched_set (fun k hk => ?_) h1)
    · exact pw_srt_inj (r := sp) hi hj (pw_G_inj hG _ _ (pw_srt_get hi) (pw_srt_get hj) e)
    · exact ⟨pw_o sp n k, pw_srt_get hk, rfl, Nat.le_refl _⟩
/-- for those left one of the builders doesn't fail -/
theorem pw_drop {n n' : Nat} {id sp id' sp' : Nat → Nat} {w L : Nat} {cy : Nat → Nat} (hG : pw_G n id sp) (hG' : pw_G n' id' sp') (h : pw_Bld n id sp w L cy) (g : Nat → Nat) (hg : ∀ k, k < n' → g k < n ∧ sp' k = sp (g k) ∧ id' k = id (g k)) (hi : ∀ i j, i < j → j < n' → g i < g j) (hle : n' ≤ n) : ¬ pw_no n' sp' := by
  intro ⟨h1, h2, h3⟩
  have hg2 : ∀ k, k < n' → g k < n ∧ sp' k = sp (g k) := fun k hk => ⟨(hg k hk).1, (hg k hk).2.1⟩
  have hn' : 0 < n' := by
    refine Nat.pos_of_ne_zero fun z => h1 ?_
    subst z
    exact Nat.zero_le _
  rcases h with ⟨rfl, f1, -⟩ | ⟨rfl, -, b, f2, -⟩ | ⟨rfl, f1, f2, f3, f4, -⟩
  · exact h1 (pw_fit_sub Nat.one_pos f1 g hg2 hi)
  · refine h2 (pw_b2_ex (b := b) ⟨f2.1.1, fun k hk => ?_⟩ (pw_fit_sub (by have := f2.1.1.1; omega) f2.2.1 g hg2 hi))
    rw [(hg2 k hk).2]
    exact f2.1.2 _ (hg2 k hk).1
  · refine h3 ⟨⟨by have := f3.1; omega, ?_⟩, ?_⟩
    · have hw : ∀ m, m ≤ n' → ∀ M, M ≤ n → (∀ k, k < m → g k < M) → pw_w sp' m ≤ pw_w sp M := by
        intro m
        induction m with
        | zero => intro _ M hM _; exact pw_w_pos fun k hk => (hG.2.2 k (by omega)).1
        | succ m ih =>
          intro hm M hM hk
          have a1 := ih (by omega) (g m) (by have := (hg m (by omega)).1; omega) fun k hk => hi k m hk (by omega)
          have a2 := pw_w_mono (f := sp) (n := g m + 1) (m := M) (fun k hk => (hG.2.2 k (by omega)).1) (hk m (Nat.lt_succ_self m))
          have a3 : pw_w sp' m * sp' m ≤ pw_w sp (g m) * sp (g m) := by rw [(hg m (by omega)).2.1]; exact Nat.mul_le_mul_right _ a1
          exact Nat.le_trans a3 a2
      exact Nat.le_trans (hw n' (Nat.le_refl n') n (Nat.le_refl n) fun k hk => (hg k hk).1) f3.2
    · rw [pw_sf_iff hG (by omega)] at f4
      rw [pw_sf_iff hG' hn']
      have s1 := pw_safe_sched (id := id) (fun k hk => (hG.2.2 k hk).1) f4
      exact pw_sched_safe (id := id') hn' (fun k hk => (hG'.2.2 k hk).1) (pw_G_inj hG') (pw_sched_set (fun k hk => ⟨g k, (hg k hk).1, (hg k hk).2.2.symm, Nat.le_of_eq (hg k hk).2.1.symm⟩) s1)
end
section
/-! Rows over numbers 0, 1, 2 ..; a call that gives its cells back at their places. -/
/-- an array of such numbers -/
def wA (f : Nat → Nat) : Nat → Int32 := fun j => nI (f j)
theorem wA_up {f : Nat → Nat} {k x : Nat} (hk : k < 2 ^ 31) : upd (wA f) (nI k).toNatClampNeg (nI x) = wA (va_up f k x) := by
  rw [nI_clamp hk]
  funext j
  show (if j = k then nI x else nI (f j)) = nI (va_up f k x j)
  by_cases h : j = k
  · rw [if_pos h, h, va_up_self]
  · rw [if_neg h, va_up_ne _ _ h]
section WIR
variable {p : Program} {l : Launch} {e : Env} {R : Room} {s : State} {m : MethodId} {args : Array Value} {below : List Frame} {meth : Method} {c : Code} {H : Heap} {locs : List Loc} {cells slots : Nat} {Q : State → Prop}
variable {cc : ByteArray} {pc : Nat} {ls : Array Slot} {rest : List Value} {D : va_G} {cl : List vw_C} {A : Nat → Prop} {a : Nat} {tys : List (ClassId × FieldType)} {ws : va_W} {H0 : Heap}
theorem wi_add (hx : p.tables.exec = Jvm.exec) (hb : c.code = cc) {x y : Nat} (hdg : decode cc pc = .ok (.iadd, 1)) (k : W p l e R s m args below meth c H locs cells slots Q (F0 m (pc + 1) ls (.int (nI (x + y)) :: rest))) : W p l e R s m args below meth c H locs cells slots Q (F0 m pc ls (.int (nI y) :: .int (nI x) :: rest)) := by
  refine lv_iadd hx hb hdg ?_
  rw [nI_add]
  exact k
theorem wi_sub (hx : p.tables.exec = Jvm.exec) (hb : c.code = cc) {x y : Nat} (hdg : decode cc pc = .ok (.isub, 1)) (h : y ≤ x) (k : W p l e R s m args below meth c H locs cells slots Q (F0 m (pc + 1) ls (.int (nI (x - y)) :: rest))) : W p l e R s m args below meth c H locs cells slots Q (F0 m pc ls (.int (nI y) :: .int (nI x) :: rest)) := by
  refine lv_isub hx hb hdg ?_
  rw [pk_sub h]
  exact k
theorem wi_mul (hx : p.tables.exec = Jvm.exec) (hb : c.code = cc) {x y : Nat} (hdg : decode cc pc = .ok (.imul, 1)) (k : W p l e R s m args below meth c H locs cells slots Q (F0 m (pc + 1) ls (.int (nI (x * y)) :: rest))) : W p l e R s m args below meth c H locs cells slots Q (F0 m pc ls (.int (nI y) :: .int (nI x) :: rest)) := by
  refine lv_imul hx hb hdg ?_
  rw [pk_mul]
  exact k
theorem wi_div (hx : p.tables.exec = Jvm.exec) (hb : c.code = cc) {x y : Nat} (hdg : decode cc pc = .ok (.idiv, 1)) (h1 : x < 2 ^ 31) (h2 : 0 < y) (h3 : y < 2 ^ 31) (k : W p l e R s m args below meth c H locs cells slots Q (F0 m (pc + 1) ls (.int (nI (x / y)) :: rest))) : W p l e R s m args below meth c H locs cells slots Q (F0 m pc ls (.int (nI y) :: .int (nI x) :: rest)) := by
  refine lv_idiv hx hb hdg (nI_ne0 h2 h3) ?_
  rw [pk_div h1 h2 h3]
  exact k
theorem wi_rem (hx : p.tables.exec = Jvm.exec) (hb : c.code = cc) {x y : Nat} (hdg : decode cc pc = .ok (.irem, 1)) (h1 : x < 2 ^ 31) (h2 : 0 < y) (h3 : y < 2 ^ 31) (k : W p l e R s m args below meth c H locs cells slots Q (F0 m (pc + 1) ls (.int (nI (x % y)) :: rest))) : W p l e R s m args below meth c H locs cells slots Q (F0 m pc ls (.int (nI y) :: .int (nI x) :: rest)) := by
  refine lv_irem hx hb hdg (nI_ne0 h2 h3) ?_
  rw [pk_rem h1 h2 h3]
  exact k
theorem wi_ge (hx : p.tables.exec = Jvm.exec) (hb : c.code = cc) {x y : Nat} {off : Int} {tgt : Nat} (hdg : decode cc pc = .ok (.if_icmp .ge off, 3)) (ht : (pc : Int) + off = (tgt : Int)) (h1 : x < 2 ^ 31) (h2 : y < 2 ^ 31)
    (kt : y ≤ x → W p l e R s m args below meth c H locs cells slots Q (F0 m tgt ls rest)) (kf : x < y → W p l e R s m args below meth c H locs cells slots Q (F0 m (pc + 3) ls rest)) : W p l e R s m args below meth c H locs cells slots Q (F0 m pc ls (.int (nI y) :: .int (nI x) :: rest)) :=
  lv_icmp_ge hx hb hdg ht (fun h => kt ((nI_leI h2 h1).mp h)) (fun h => kf (Nat.not_le.mp fun z => h ((nI_leI h2 h1).mpr z)))
theorem wi_lt (hx : p.tables.exec = Jvm.exec) (hb : c.code = cc) {x y : Nat} {off : Int} {tgt : Nat} (hdg : decode cc pc = .ok (.if_icmp .lt off, 3)) (ht : (pc : Int) + off = (tgt : Int)) (h1 : x < 2 ^ 31) (h2 : y < 2 ^ 31)
    (kt : x < y → W p l e R s m args below meth c H locs cells slots Q (F0 m tgt ls rest)) (kf : y ≤ x → W p l e R s m args below meth c H locs cells slots Q (F0 m (pc + 3) ls rest)) : W p l e R s m args below meth c H locs cells slots Q (F0 m pc ls (.int (nI y) :: .int (nI x) :: rest)) :=
  lv_icmp_lt hx hb hdg ht (fun h => kt ((nI_ltI h1 h2).mp h)) (fun h => kf (Nat.not_lt.mp fun z => h ((nI_ltI h1 h2).mpr z)))
theorem wi_gt (hx : p.tables.exec = Jvm.exec) (hb : c.code = cc) {x y : Nat} {off : Int} {tgt : Nat} (hdg : decode cc pc = .ok (.if_icmp .gt off, 3)) (ht : (pc : Int) + off = (tgt : Int)) (h1 : x < 2 ^ 31) (h2 : y < 2 ^ 31)
    (kt : y < x → W p l e R s m args below meth c H locs cells slots Q (F0 m tgt ls rest)) (kf : x ≤ y → W p l e R s m args below meth c H locs cells slots Q (F0 m (pc + 3) ls rest)) : W p l e R s m args below meth c H locs cells slots Q (F0 m pc ls (.int (nI y) :: .int (nI x) :: rest)) :=
  lv_icmp_gt hx hb hdg ht (fun h => kt ((nI_ltI h2 h1).mp h)) (fun h => kf (Nat.not_lt.mp fun z => h ((nI_ltI h2 h1).mpr z)))
theorem wi_le (hx : p.tables.exec = Jvm.exec) (hb : c.code = cc) {x y : Nat} {off : Int} {tgt : Nat} (hdg : decode cc pc = .ok (.if_icmp .le off, 3)) (ht : (pc : Int) + off = (tgt : Int)) (h1 : x < 2 ^ 31) (h2 : y < 2 ^ 31)
    (kt : x ≤ y → W p l e R s m args below meth c H locs cells slots Q (F0 m tgt ls rest)) (kf : y < x → W p l e R s m args below meth c H locs cells slots Q (F0 m (pc + 3) ls rest)) : W p l e R s m args below meth c H locs cells slots Q (F0 m pc ls (.int (nI y) :: .int (nI x) :: rest)) :=
  lv_icmp_le hx hb hdg ht (fun h => kt ((nI_leI h1 h2).mp h)) (fun h => kf (Nat.not_le.mp fun z => h ((nI_leI h1 h2).mpr z)))
theorem wi_eq (hx : p.tables.exec = Jvm.exec) (hb : c.code = cc) {x y : Nat} {off : Int} {tgt : Nat} (hdg : decode cc pc = .ok (.if_icmp .eq off, 3)) (ht : (pc : Int) + off = (tgt : Int)) (h1 : x < 2 ^ 31) (h2 : y < 2 ^ 31)
    (kt : x = y → W p l e R s m args below meth c H locs cells slots Q (F0 m tgt ls rest)) (kf : x ≠ y → W p l e R s m args below meth c H locs cells slots Q (F0 m (pc + 3) ls rest)) : W p l e R s m args below meth c H locs cells slots Q (F0 m pc ls (.int (nI y) :: .int (nI x) :: rest)) :=
  lv_icmp_eq hx hb hdg ht (fun h => kt ((nI_eq h1 h2).mp h)) (fun h => kf (fun z => h ((nI_eq h1 h2).mpr z)))
theorem wi_ne (hx : p.tables.exec = Jvm.exec) (hb : c.code = cc) {x y : Nat} {off : Int} {tgt : Nat} (hdg : decode cc pc = .ok (.if_icmp .ne off, 3)) (ht : (pc : Int) + off = (tgt : Int)) (h1 : x < 2 ^ 31) (h2 : y < 2 ^ 31)
    (kt : x ≠ y → W p l e R s m args below meth c H locs cells slots Q (F0 m tgt ls rest)) (kf : x = y → W p l e R s m args below meth c H locs cells slots Q (F0 m (pc + 3) ls rest)) : W p l e R s m args below meth c H locs cells slots Q (F0 m pc ls (.int (nI y) :: .int (nI x) :: rest)) :=
  lv_icmp_ne hx hb hdg ht (fun h => kt (fun z => h ((nI_eq h1 h2).mpr z))) (fun h => kf ((nI_eq h1 h2).mp h))
theorem wi_z {x : Nat} (h : x < 2 ^ 31) : nI x = 0 ↔ x = 0 := (nI_eq (b := 0) h (by decide))
theorem wi_if_eq (hx : p.tables.exec = Jvm.exec) (hb : c.code = cc) {x : Nat} {off : Int} {tgt : Nat} (hdg : decode cc pc = .ok (.ifCond .eq off, 3)) (ht : (pc : Int) + off = (tgt : Int)) (h1 : x < 2 ^ 31)
    (kt : x = 0 → W p l e R s m args below meth c H locs cells slots Q (F0 m tgt ls rest)) (kf : 0 < x → W p l e R s m args below meth c H locs cells slots Q (F0 m (pc + 3) ls rest)) : W p l e R s m args below meth c H locs cells slots Q (F0 m pc ls (.int (nI x) :: rest)) :=
  lv_if_eq hx hb hdg ht (fun h => kt ((wi_z h1).mp h)) (fun h => kf (Nat.pos_of_ne_zero fun z => h ((wi_z h1).mpr z)))
theorem wi_if_ne (hx : p.tables.exec = Jvm.exec) (hb : c.code = cc) {x : Nat} {off : Int} {tgt : Nat} (hdg : decode cc pc = .ok (.ifCond .ne off, 3)) (ht : (pc : Int) + off = (tgt : Int)) (h1 : x < 2 ^ 31)
    (kt : 0 < x → W p l e R s m args below meth c H locs cells slots Q (F0 m tgt ls rest)) (kf : x = 0 → W p l e R s m args below meth c H locs cells slots Q (F0 m (pc + 3) ls rest)) : W p l e R s m args below meth c H locs cells slots Q (F0 m pc ls (.int (nI x) :: rest)) :=
  lv_if_ne hx hb hdg ht (fun h => kt (Nat.pos_of_ne_zero fun z => h ((wi_z h1).mpr z))) (fun h => kf ((wi_z h1).mp h))
theorem wi_if_le (hx : p.tables.exec = Jvm.exec) (hb : c.code = cc) {x : Nat} {off : Int} {tgt : Nat} (hdg : decode cc pc = .ok (.ifCond .le off, 3)) (ht : (pc : Int) + off = (tgt : Int)) (h1 : x < 2 ^ 31)
    (kt : x = 0 → W p l e R s m args below meth c H locs cells slots Q (F0 m tgt ls rest)) (kf : 0 < x → W p l e R s m args below meth c H locs cells slots Q (F0 m (pc + 3) ls rest)) : W p l e R s m args below meth c H locs cells slots Q (F0 m pc ls (.int (nI x) :: rest)) :=
  lv_if_le hx hb hdg ht (fun h => kt (by
    by_cases hz : x = 0
    · exact hz
    · exact absurd h (nI_nle (Nat.pos_of_ne_zero hz) h1))) (fun h => kf (Nat.pos_of_ne_zero fun z => h (by subst z; exact Int32.le_refl _)))
theorem wi_if_gt (hx : p.tables.exec = Jvm.exec) (hb : c.code = cc) {x : Nat} {off : Int} {tgt : Nat} (hdg : decode cc pc = .ok (.ifCond .gt off, 3)) (ht : (pc : Int) + off = (tgt : Int)) (h1 : x < 2 ^ 31)
    (kt : 0 < x → W p l e R s m args below meth c H locs cells slots Q (F0 m tgt ls rest)) (kf : x = 0 → W p l e R s m args below meth c H locs cells slots Q (F0 m (pc + 3) ls rest)) : W p l e R s m args below meth c H locs cells slots Q (F0 m pc ls (.int (nI x) :: rest)) :=
  lv_if_gt hx hb hdg ht (fun h => kt (Nat.pos_of_ne_zero fun z => by subst z; exact absurd h (by decide))) (fun h => kf (by
    by_cases hz : x = 0
    · exact hz
    · exact absurd (nI_lt (a := 0) (Nat.pos_of_ne_zero hz) h1) h))
theorem wi_inc (hx : p.tables.exec = Jvm.exec) (hb : c.code = cc) {i nL k x : Nat} {lv lv' : List (Nat × Value)} (hdg : decode cc pc = .ok (.iinc i 1, 3)) (h : lv_has ls nL lv) (hk : lv[k]? = some (i, .int (nI x))) (hn : i < nL) (hl : (i, Value.int (nI (x + 1))) :: lv.filter (fun q => !(q.1 == i) && !(q.1 + 1 == i && q.2.category == 2)) = lv')
    (kk : ∀ ls' : Array Slot, lv_has ls' nL lv' → W p l e R s m args below meth c H locs cells slots Q (F0 m (pc + 3) ls' rest)) : W p l e R s m args below meth c H locs cells slots Q (F0 m pc ls rest) :=
  lv_iinc (v := nI (x + 1)) hx hb hdg h hk (nI_1 x) hn hl kk
theorem wi_dec (hx : p.tables.exec = Jvm.exec) (hb : c.code = cc) {i nL k x : Nat} {lv lv' : List (Nat × Value)} (hdg : decode cc pc = .ok (.iinc i (-1), 3)) (h : lv_has ls nL lv) (h0 : 0 < x) (hk : lv[k]? = some (i, .int (nI x))) (hn : i < nL) (hl : (i, Value.int (nI (x - 1))) :: lv.filter (fun q => !(q.1 == i) && !(q.1 + 1 == i && q.2.category == 2)) = lv')
    (kk : ∀ ls' : Array Slot, lv_has ls' nL lv' → W p l e R s m args below meth c H locs cells slots Q (F0 m (pc + 3) ls' rest)) : W p l e R s m args below meth c H locs cells slots Q (F0 m pc ls rest) :=
  lv_iinc (v := nI (x - 1)) hx hb hdg h hk (sb_m1 h0) hn hl kk
theorem wi_ald (hx : p.tables.exec = Jvm.exec) (hb : c.code = cc) (hK : va_K D cl tys s) (hP : va_P D cl ws H) (q0 t0 : Nat) {cA : ClassId} {n : Nat} {f : Nat → Nat} (ha : ws[q0]? = some (a, .inl (cA, n, .inl (wA f)))) (ht : tys[t0]? = some (cA, .int)) {i : Nat} (hi : i < n) (hn : n < 2 ^ 31) (hdg : decode cc pc = .ok (.iaload, 1))
    (kk : W p l e R s m args below meth c H locs cells slots Q (F0 m (pc + 1) ls (.int (nI (f i)) :: rest))) : W p l e R s m args below meth c H locs cells slots Q (F0 m pc ls (.int (nI i) :: .ref a :: rest)) := by
  refine va_iald hx hb hK hP q0 t0 ha ht (vp_in_nI hi hn) hdg ?_
  rw [nI_clamp (Nat.lt_trans hi hn)]
  exact kk
theorem wi_ast (hx : p.tables.exec = Jvm.exec) (hb : c.code = cc) (hK : va_K D cl tys s) (hP : va_P D cl ws H) (hD : va_D A ws) (hS : va_S A H0 H locs) (q0 t0 : Nat) {cA : ClassId} {n : Nat} {f : Nat → Nat} (ha : ws[q0]? = some (a, .inl (cA, n, .inl (wA f)))) (ht : tys[t0]? = some (cA, .int)) {i x : Nat} (hi : i < n) (hn : n < 2 ^ 31) (hdg : decode cc pc = .ok (.iastore, 1))
    (kk : ∀ (H1 : Heap) (locs1 : List Loc), va_P D cl (ws.set q0 (a, .inl (cA, n, .inl (wA (va_up f i x))))) H1 → va_D A (ws.set q0 (a, .inl (cA, n, .inl (wA (va_up f i x))))) → va_S A H0 H1 locs1 → W p l e R s m args below meth c H1 locs1 cells slots Q (F0 m (pc + 1) ls rest)) : W p l e R s m args below meth c H locs cells slots Q (F0 m pc ls (.int (nI x) :: .int (nI i) :: .ref a :: rest)) := by
  refine va_iast hx hb hK hP hD hS q0 t0 ha ht (vp_in_nI hi hn) hdg fun H1 locs1 h1 h2 h3 => ?_
  rw [wA_up (Nat.lt_trans hi hn)] at h1 h2
  exact kk H1 locs1 h1 h2 h3
/-- a new array of numbers, its kind known by the tables -/
theorem wi_newa (hx : p.tables.exec = Jvm.exec) (hb : c.code = cc) {atype : ArrayType} (harr : (Cond.arrayClass (newarray.typeOf atype)).before args s = true) {ty : FieldType} (hty : newarray.typeOf atype = ty) (hty2 : ty = .int ∨ ty = .boolean ∨ ty = .long) (hK : va_K D cl tys s) (hP : va_P D cl ws H) (hD : va_D A ws) (hS : va_S A H0 H locs) (hA : ∀ q, H0.size ≤ q → A q)
    (t0 : Nat) {cA : ClassId} (ht : tys[t0]? = some (cA, ty)) {n : Int32} {N' : Nat} {a0 : vp_A} (ha : ∀ cA : ClassId, vp_cell cA a0 = arrV cA N' (fun _ => defaultValue ty)) (hn : ¬ n < 0) (hN : n.toNatClampNeg = N') (hbytes : N' * componentBytes ty ≤ 536870912) (hcells : cells + 1 ≤ R.cells) (hslots : slots + N' ≤ R.slots) (hdg : decode cc pc = .ok (.newarray atype, 2))
    (kk : ∀ (q : Nat) (H1 : Heap), va_P D cl (ws ++ [(q, .inl (cA, a0))]) H1 → va_D A (ws ++ [(q, .inl (cA, a0))]) → va_S A H0 H1 locs →
      W p l e R s m args below meth c H1 locs (cells + 1) (slots + N') Q (F0 m (pc + 2) ls (.ref q :: rest))) : W p l e R s m args below meth c H locs cells slots Q (F0 m pc ls (.int n :: rest)) := by
  refine va_newa hx hb harr hty hK hP hD hS hA ha hn hN hbytes hcells hslots hdg fun q cA' H1 hK1 hP1 hD1 hS1 => ?_
  have h1 := (hK.2 t0 _ ht).2
  have h2 := (hK1.2 tys.length (cA', ty) (by rw [List.getElem?_append_right (Nat.le_refl _), Nat.sub_self]; rfl)).2
  have e : cA' = cA := by
    rcases hty2 with rfl | rfl | rfl
    · exact Option.some.inj (h2.symm.trans h1)
    · exact Option.some.inj (h2.symm.trans h1)
    · exact Option.some.inj (h2.symm.trans h1)
  subst e
  exact kk q H1 hP1 hD1 hS1
end WIR
/-- the cells w put at the places is; what is more comes behind -/
def ck_go : List Nat → va_W → va_W → va_W
  | [] => fun ws w => ws ++ w
  | i :: is => fun ws w => match w with
    | [] => ws
    | x :: w' => ck_go is (ws.set i x) w'
abbrev ck_set (ws : va_W) (is : List Nat) (w : va_W) : va_W := ck_go is ws w
theorem ck_get : ∀ (is : List Nat) (ws w : va_W), is.length ≤ w.length → (∀ i ∈ is, i < ws.length) → va_nd is = true → ∀ (k : Nat) (q : Nat × va_E), (ck_set ws is w)[k]? = some q → (∃ j : Nat, is[j]? = some k ∧ w[j]? = some q) ∨ (k ∉ is ∧ k < ws.length ∧ ws[k]? = some q) ∨ (∃ j : Nat, k = ws.length + j ∧ w[is.length + j]? = some q) := by
  intro is
  induction is with
  | nil =>
    intro ws w _ _ _ k q hk
    have hk : (ws ++ w)[k]? = some q := hk
    by_cases hl : k < ws.length
    · rw [List.getElem?_append_left hl] at hk
      exact Or.inr (Or.inl ⟨by simp, hl, hk⟩)
    · rw [List.getElem?_append_right (by omega)] at hk
      exact Or.inr (Or.inr ⟨k - ws.length, by omega, by simpa using hk⟩)
  | cons i is ih =>
    intro ws w hlen hlt hnd k q hk
    cases w with
    | nil => simp at hlen
    | cons x w =>
      have hk : (ck_set (ws.set i x) is w)[k]? = some q := hk
      simp only [va_nd, Bool.and_eq_true, decide_eq_true_eq] at hnd
      have hi := hlt i List.mem_cons_self
      rcases ih (ws.set i x) w (by simpa using hlen) (fun j hj => by rw [List.length_set]; exact hlt j (List.mem_cons_of_mem _ hj)) hnd.2 k q hk with ⟨j, h1, h2⟩ | ⟨h1, h2, h3⟩ | ⟨j, h1, h2⟩
      · exact Or.inl ⟨j + 1, by simpa using h1, by simpa using h2⟩
      · rw [List.length_set] at h2
        by_cases hki : k = i
        · subst hki
          rw [List.getElem?_set_self hi] at h3
          exact Or.inl ⟨0, rfl, h3⟩
        · rw [List.getElem?_set_ne (Ne.symm hki)] at h3
          exact Or.inr (Or.inl ⟨by simp [hki, h1], h2, h3⟩)
      · rw [List.length_set] at h1
        refine Or.inr (Or.inr ⟨j, h1, ?_⟩)
        rw [List.length_cons, Nat.add_right_comm, List.getElem?_cons_succ]
        exact h2
/-- behind a call: the callee's cells at their places, the others as they were -/
theorem ck_join {A0 : Nat → Prop} {D : va_G} {cl : List vw_C} {ws wc w1 : va_W} {H H1 : Heap} (hP : va_P D cl ws H) (hD : va_D A0 ws) (is : List Nat) (hC : is.map (fun i => ws[i]?) = wc.map some) (hn : va_nd is = true) (hl : is.length ≤ w1.length)
    (hk : ∀ q : Nat, q < H.size → ¬ va_A wc H.size q → H1[q]? = H[q]?) (hF : ∀ q, va_A wc H.size q → A0 q) (hP1 : va_P D cl w1 H1) (hD1 : va_D (va_A wc H.size) w1) : va_P D cl (ck_set ws is w1) H1 ∧ va_D A0 (ck_set ws is w1) := by
  have at' : ∀ (k : Nat) (q : Nat × va_E), wc[k]? = some q → ∃ i, is[k]? = some i ∧ ws[i]? = some q := by
    intro k q hq
    have h1 : (is.map (fun i => ws[i]?))[k]? = some (some q) := by rw [hC, List.getElem?_map, hq]; rfl
    rw [List.getElem?_map] at h1
    cases hi : is[k]? with
    | none => rw [hi] at h1; cases h1
    | some i => rw [hi] at h1; exact ⟨i, rfl, Option.some.inj h1⟩
  have hlt : ∀ i ∈ is, i < ws.length := by
    intro i hi
    obtain ⟨j, hj⟩ := List.getElem?_of_mem hi
    have h1 : (is.map (fun i => ws[i]?))[j]? = some (ws[i]?) := by rw [List.getElem?_map, hj]; rfl
    rw [hC, List.getElem?_map] at h1
    cases hw : wc[j]? with
    | none => rw [hw] at h1; cases h1
    | some q =>
      rw [hw] at h1
      have h2 : some q = ws[i]? := Option.some.inj h1
      exact (List.getElem?_eq_some_iff.mp h2.symm).1
  have apart : ∀ (k : Nat) (q : Nat × va_E), k ∉ is → ws[k]? = some q → q.1 < H.size ∧ ¬ va_A wc H.size q.1 := by
    intro k q hkn hq
    have hl := (hP k q hq).lt
    refine ⟨hl, fun h => ?_⟩
    rcases h with ⟨k2, e, h⟩ | h
    · obtain ⟨j, h3, h4⟩ := at' k2 (q.1, e) h
      have hij := hD.1 k j q (q.1, e) hq h4 rfl
      subst hij
      exact hkn (List.mem_of_getElem? h3)
    · omega
  have hg := ck_get is ws w1 hl hlt hn
  refine ⟨fun k q hq => ?_, fun i j x y hi hj hxy => ?_, fun k q hq => ?_⟩
  · rcases hg k q hq with ⟨j, h1, h2⟩ | ⟨h1, h2, h3⟩ | ⟨j, h1, h2⟩
    · exact hP1 j q h2
    · obtain ⟨g1, g2⟩ := apart k q h1 h3
      exact (hP k q h3).kept (hk q.1 g1 g2)
    · exact hP1 _ q h2
  · rcases hg i x hi with ⟨a, a1, a2⟩ | ⟨a1, a2, a3⟩ | ⟨a, a1, a2⟩ <;> rcases hg j y hj with ⟨b, b1, b2⟩ | ⟨b1, b2, b3⟩ | ⟨b, b1, b2⟩
    · have := hD1.1 a b x y a2 b2 hxy
      subst this
      exact Option.some.inj (a1.symm.trans b1)
    · exact absurd (by rw [← hxy]; exact hD1.2 a x a2) (apart j y b1 b3).2
    · have h9 := hD1.1 a _ x y a2 b2 hxy
      have h8 := (List.getElem?_eq_some_iff.mp a1).1
      omega
    · exact absurd (by rw [hxy]; exact hD1.2 b y b2) (apart i x a1 a3).2
    · exact hD.1 i j x y a3 b3 hxy
    · exact absurd (by rw [hxy]; exact hD1.2 _ y b2) (apart i x a1 a3).2
    · have h9 := hD1.1 _ b x y a2 b2 hxy
      have h8 := (List.getElem?_eq_some_iff.mp b1).1
      omega
    · exact absurd (by rw [← hxy]; exact hD1.2 _ x a2) (apart j y b1 b3).2
    · have h9 := hD1.1 _ _ x y a2 b2 hxy
      omega
  · rcases hg k q hq with ⟨j, h1, h2⟩ | ⟨h1, h2, h3⟩ | ⟨j, h1, h2⟩
    · exact hF _ (hD1.2 j q h2)
    · exact hD.2 k q h3
    · exact hF _ (hD1.2 _ q h2)
theorem wi_max {x y : Nat} (hx : x < 2 ^ 31) (hy : y < 2 ^ 31) : (if nI x < nI y then nI y else nI x) = nI (max x y) := by
  by_cases h : x < y
  · rw [if_pos ((nI_ltI hx hy).mpr h), Nat.max_eq_right (Nat.le_of_lt h)]
  · rw [if_neg fun z => h ((nI_ltI hx hy).mp z), Nat.max_eq_left (Nat.not_lt.mp h)]
theorem wi_min {x y : Nat} (hx : x < 2 ^ 31) (hy : y < 2 ^ 31) : (if nI y < nI x then nI y else nI x) = nI (min x y) := by
  by_cases h : y < x
  · rw [if_pos ((nI_ltI hy hx).mpr h), Nat.min_eq_right (Nat.le_of_lt h)]
  · rw [if_neg fun z => h ((nI_ltI hy hx).mp z), Nat.min_eq_left (Nat.not_lt.mp h)]
theorem nI_m1 {k : Nat} (h : k < 2 ^ 31) : ¬ (-1 : Int32) = nI k := fun e => by
  have h1 := nI_toInt h
  rw [← e] at h1
  have h2 : (-1 : Int32).toInt = -1 := by decide
  omega
/-- one more place is as it should be -/
theorem up_lt {u g : Nat → Nat} {k : Nat} (h : ∀ t, t < k → u t = g t) : ∀ t, t < k + 1 → va_up u k (g k) t = g t := by
  refine lt_s (fun t ht => ?_) (va_up_self _ _ _)
  rw [va_up_ne _ _ (by omega)]
  exact h t ht
theorem up_mv {u f : Nat → Nat} {k n : Nat} (h : (∀ t, t < k → u t = f t) ∧ ∀ t, k ≤ t → t < n → u (t + 1) = f t) (hk : 0 < k) (hn : k ≤ n) : (∀ t, t < k - 1 → va_up u k (u (k - 1)) t = f t) ∧ ∀ t, k - 1 ≤ t → t < n → va_up u k (u (k - 1)) (t + 1) = f t := by
  refine ⟨fun t ht => ?_, fun t h1 h2 => ?_⟩
  · rw [va_up_ne _ _ (by omega)]
    exact h.1 t (by omega)
  · by_cases e : t + 1 = k
    · rw [e, va_up_self, show t = k - 1 by omega]
      exact h.1 (k - 1) (by omega)
    · rw [va_up_ne _ _ e]
      exact h.2 t (by omega) h2
theorem up_ou {u f : Nat → Nat} {k i : Nat} (h : (∀ t, t < k → u t = if t < i then f t else f (t + 1)) ∧ ∀ t, k ≤ t → u t = f t) (hik : i ≤ k) : (∀ t, t < k + 1 → va_up u k (u (k + 1)) t = if t < i then f t else f (t + 1)) ∧ ∀ t, k + 1 ≤ t → va_up u k (u (k + 1)) t = f t := by
  refine ⟨lt_s (fun t ht => ?_) ?_, fun t ht => ?_⟩
  · rw [va_up_ne _ _ (by omega)]
    exact h.1 t ht
  · rw [va_up_self, if_neg (by omega)]
    exact h.2 (k + 1) (by omega)
  · rw [va_up_ne _ _ (by omega)]
    exact h.2 t (by omega)
section WIS
variable {p : Program} {l : Launch} {e : Env} {R : Room} {s : State} {m : MethodId} {args : Array Value} {below : List Frame} {meth : Method} {c : Code} {H : Heap} {locs : List Loc} {cells slots : Nat} {Q : State → Prop} {cc : ByteArray} {pc : Nat} {ls : Array Slot} {rest : List Value}
theorem wi_if_ge (hx : p.tables.exec = Jvm.exec) (hb : c.code = cc) {x : Nat} {off : Int} {tgt : Nat} (hdg : decode cc pc = .ok (.ifCond .ge off, 3)) (ht : (pc : Int) + off = (tgt : Int)) (h1 : x < 2 ^ 31)
    (kt : W p l e R s m args below meth c H locs cells slots Q (F0 m tgt ls rest)) : W p l e R s m args below meth c H locs cells slots Q (F0 m pc ls (.int (nI x) :: rest)) :=
  lv_if_ge hx hb hdg ht (fun _ => kt) (fun h => absurd (nI_pos' h1) h)
theorem wi_if_lt (hx : p.tables.exec = Jvm.exec) (hb : c.code = cc) {x : Nat} {off : Int} {tgt : Nat} (hdg : decode cc pc = .ok (.ifCond .lt off, 3)) (ht : (pc : Int) + off = (tgt : Int)) (h1 : x < 2 ^ 31)
    (kf : W p l e R s m args below meth c H locs cells slots Q (F0 m (pc + 3) ls rest)) : W p l e R s m args below meth c H locs cells slots Q (F0 m pc ls (.int (nI x) :: rest)) :=
  lv_if_lt hx hb hdg ht (fun h => absurd h (nI_pos h1)) (fun _ => kf)
end WIS
end
section
/-! The form of the contracts; a method's start and end; behind a call. -/
/-- a static that holds a reference or null, in the heap that the law found -/
def xL (C n d : String) (Hs : Heap) (U : State) : Prop := ∃ (c : ClassId) (k : Class) (i : Nat) (f : Field) (a : Nat) (cell : Cell) (v : Value), U.vm.findClass C = some c ∧ U.fieldFound? C n d = some (c, k, i, f) ∧ f.isStatic = true ∧ k.statics = some a ∧ Hs[a]? = some cell ∧ cell.vm.isStatics = true ∧ cell.cls = c ∧ f.slot < cell.slots.size ∧ k.staticTypes[f.slot]? = some f.type ∧ cell.slots[f.slot]? = some v ∧ v.isRef = true
theorem xL.moved {C n d : String} {Hs : Heap} {u U : State} (hvm : u.vm.Alike U.vm) (h : xL C n d Hs u) : xL C n d Hs U := by
  obtain ⟨c, k, i, f, a, cell, v, h1, h2, h3, h4, h5, h6, h7, h8, h9, h10⟩ := h
  obtain ⟨k', hi', he⟩ := State.fieldFound?_setVm hvm h2
  exact ⟨c, k', i, f, a, cell, v, by rw [hvm.findClass]; exact h1, hi', h3, by rw [he]; exact h4, h5, h6, h7, h8, by rw [he]; exact h9, h10⟩
/-- 3, 5, 7 .. -/
def bsV : Nat → Value := fun j => .int (nI (3 + 2 * j))
def gB (Hs : Heap) (U : State) : Prop := ∃ t : Nat, va_Z "PinwheelKernel" "BASES" "[I" (.ref t) (fun q => Hs.size ≤ q) U U.heap ∧ va_T .int t 7 bsV (fun q => Hs.size ≤ q) U U.heap
theorem gB.moved {Hs : Heap} {u U : State} (hvm : u.vm.Alike U.vm) (hk : ∀ a : Nat, a < Hs.size → U.heap[a]? = u.heap[a]?) (h : gB Hs u) : gB Hs U := by
  obtain ⟨t, h1, h2⟩ := h
  exact ⟨t, (h1.moved hvm).kept (fun a _ h => hk a (Nat.not_le.mp h)), (h2.moved hvm).kept (fun a _ h => hk a (Nat.not_le.mp h))⟩
/-- the words of the nest, and the heap that the law found: nothing of it has changed -/
def gE (Hs : Heap) (U : State) : Prop := nz U ∧ Hs.size ≤ U.heap.size ∧ (∀ q : Nat, q < Hs.size → U.heap[q]? = Hs[q]?) ∧ gB Hs U ∧ xL "java/lang/Throwable" "UNASSIGNED_STACK" "[Ljava/lang/StackTraceElement;" Hs U ∧ xL "java/lang/Throwable" "SUPPRESSED_SENTINEL" "Ljava/util/List;" Hs U
theorem gE_at {Hs H : Heap} {s U : State} {A : Nat → Prop} {locs : List Loc} (hE : gE Hs s) (hS : va_S A s.heap H locs) (hAH : ∀ q, A q → Hs.size ≤ q) (hU : U.heap = H) (hW : s.WarmedH U.vm) : gE Hs U := by
  obtain ⟨h1, h2, h3, h4, h5, h6⟩ := hE
  have hk : ∀ q : Nat, q < Hs.size → U.heap[q]? = s.heap[q]? := fun q hq => by
    rw [hU, hS.2.1 q (Nat.lt_of_lt_of_le hq h2) (fun z => absurd (hAH q z) (Nat.not_le.mpr hq))]
  exact ⟨nz_warm hW h1, by rw [hU]; exact Nat.le_trans h2 hS.1, fun q hq => (hk q hq).trans (h3 q hq), h4.moved hW.alike hk, h5.moved hW.alike, h6.moved hW.alike⟩
abbrev kP (Hs : Heap) (D : va_G) (cl : List vw_C) (tys : List (ClassId × FieldType)) (av : List Value) (wc : va_W) (sz : Nat) : Array Value → State → Prop := va_Pc av (fun U => U.heap.size = sz ∧ va_P D cl wc U.heap ∧ va_K D cl tys U ∧ va_D (fun q => Hs.size ≤ q) wc ∧ gE Hs U)
abbrev kB (D : va_G) (cl : List vw_C) (tys : List (ClassId × FieldType)) (wc : va_W) (sz : Nat) : va_W → State → Prop := fun w t => wc.length ≤ w.length ∧ va_P D cl w t.heap ∧ va_K D cl tys t ∧ va_D (va_A wc sz) w
def kI (l : Launch) (Hs : Heap) (D : va_G) (cl : List vw_C) (tys : List (ClassId × FieldType)) (y : MethodName) (ws : List Cond) (rm : Room) (av : List Value) (wc : va_W) (post : Int32 → va_W → Prop) : Prop := ∀ sz : Nat, Met l y ws rm (kP Hs D cl tys av wc sz) (va_Qi post (kB D cl tys wc sz) (va_A wc sz)) rm.cells rm.slots (va_A wc sz)
def kL (l : Launch) (Hs : Heap) (D : va_G) (cl : List vw_C) (tys : List (ClassId × FieldType)) (y : MethodName) (ws : List Cond) (rm : Room) (av : List Value) (wc : va_W) (post : Int64 → va_W → Prop) : Prop := ∀ sz : Nat, Met l y ws rm (kP Hs D cl tys av wc sz) (va_Ql post (kB D cl tys wc sz) (va_A wc sz)) rm.cells rm.slots (va_A wc sz)
def kV (l : Launch) (Hs : Heap) (D : va_G) (cl : List vw_C) (tys : List (ClassId × FieldType)) (y : MethodName) (ws : List Cond) (rm : Room) (av : List Value) (wc : va_W) (post : va_W → Prop) : Prop := ∀ sz : Nat, Met l y ws rm (kP Hs D cl tys av wc sz) (va_Qv post (kB D cl tys wc sz) (va_A wc sz)) rm.cells rm.slots (va_A wc sz)
def kR (l : Launch) (Hs : Heap) (D : va_G) (cl : List vw_C) (tys : List (ClassId × FieldType)) (y : MethodName) (ws : List Cond) (rm : Room) (av : List Value) (wc : va_W) (post : Nat → va_W → Prop) : Prop := ∀ sz : Nat, Met l y ws rm (kP Hs D cl tys av wc sz) (va_Qr (fun _ : va_W => True) (fun w a t => post a w ∧ kB D cl tys wc sz w t) (va_A wc sz)) rm.cells rm.slots (va_A wc sz)
theorem kP_blind {Hs : Heap} {D : va_G} {cl : List vw_C} {tys : List (ClassId × FieldType)} {av : List Value} {wc : va_W} {sz : Nat} : FrameBlind (kP Hs D cl tys av wc sz) := fun a U g mk q => by
  obtain ⟨q0, q1, qP, qK, qD, qE⟩ := q
  exact ⟨q0, q1, qP, va_K.moved (u := U) (U := U.calling g mk a) (Vm.Alike.refl U.vm) qK, qD, nz_same (s := U) (U := U.calling g mk a) rfl qE.1, qE.2.1, qE.2.2.1, gB.moved (u := U) (U := U.calling g mk a) (Vm.Alike.refl U.vm) (fun _ _ => rfl) qE.2.2.2.1, xL.moved (u := U) (U := U.calling g mk a) (Vm.Alike.refl U.vm) qE.2.2.2.2.1, xL.moved (u := U) (U := U.calling g mk a) (Vm.Alike.refl U.vm) qE.2.2.2.2.2⟩
theorem k_preS {s : State} {Hs H : Heap} {locs : List Loc} {D : va_G} {cl : List vw_C} {tys : List (ClassId × FieldType)} {A : Nat → Prop} {ws wc : va_W} {As : List Value} (hE : gE Hs s) (hAH : ∀ q, A q → Hs.size ≤ q) (hK : va_K D cl tys s) (hP : va_P D cl ws H) (hD : va_D A ws) (hS : va_S A s.heap H locs) (is : List Nat) (hC : is.map (fun i => ws[i]?) = wc.map some) (hn : va_nd is = true) : PreS s H (kP Hs D cl tys As wc H.size) As := by
  have hs : is.filterMap (fun i => ws[i]?) = wc := by
    have h1 : (is.map (fun i => ws[i]?)).filterMap id = (wc.map some).filterMap id := by rw [hC]
    simpa [List.filterMap_map, Function.comp_def] using h1
  exact ⟨kP_blind, fun U hU hW => ⟨rfl, by rw [hU], by rw [hU]; exact hP.sub is hs, va_K.moved hW.alike hK, (hD.sub is hn hC).weaken (fun _ _ _ h => hAH _ h), gE_at hE hS hAH hU hW⟩⟩
theorem k_preV {s : State} {Hs H : Heap} {locs : List Loc} {D : va_G} {cl : List vw_C} {tys : List (ClassId × FieldType)} {A : Nat → Prop} {ws wc : va_W} {As : List Value} {b : Nat} (hE : gE Hs s) (hAH : ∀ q, A q → Hs.size ≤ q) (hK : va_K D cl tys s) (hP : va_P D cl ws H) (hD : va_D A ws) (hS : va_S A s.heap H locs) (is : List Nat) (hC : is.map (fun i => ws[i]?) = wc.map some) (hn : va_nd is = true) (q0 : Nat) {ci : Nat} {fs : List Value} {C : String} {T : u_T} {N : Nat} (he : ws[q0]? = some (b, .inr (ci, fs))) (hc : cl[ci]? = some (C, T, N)) : PreV s H C b (kP Hs D cl tys (.ref b :: As) wc H.size) As := by
  obtain ⟨h1, h2⟩ := k_preS (As := .ref b :: As) hE hAH hK hP hD hS is hC hn
  exact ⟨h1, va_recv hK hP hc he, h2⟩
theorem k_of {l : Launch} {Hs : Heap} {D : va_G} {cl : List vw_C} {tys : List (ClassId × FieldType)} {y : MethodName} {ws ws' : List Cond} {rm : Room} {av : List Value} {wc : va_W} {sz mc ms : Nat} {Qc : Array Value → State → Outcome → State → Prop} {cc : ByteArray} {maxL : Nat} {ret : Option FieldType}
    (hy : plainName y.cls = true) (hw : ws = Cond.code y cc maxL ret :: ws') (hlen : (lg_sl av).length ≤ maxL)
    (body : ∀ (p : Program) (e : Env) (s : State) (m : MethodId) (args : Array Value) (below : List Frame) (meth : Method) (c : Code) (ls : Array Slot) (H : Heap) (locs : List Loc) (A : Nat → Prop) (Q : State → Prop), Q = MQ below Qc args s mc ms A → p.tables.exec = Jvm.exec → c.code = cc → c.maxLocals = maxL → meth.sig.returnType = ret → (∀ w ∈ ws, w.before args s = true) → s.vm.findClass y.cls = some m.cls → meth.locks = false → meth.name = y.name → s.heap.size = sz → A = va_A wc sz →
      va_P D cl wc H → va_K D cl tys s → va_D A wc → va_S A s.heap H locs → (∀ q, s.heap.size ≤ q → A q) → gE Hs s → (∀ q, A q → Hs.size ≤ q) → lv_has ls maxL (lv_args 0 av) → W p l e rm s m args below meth c H locs 0 0 Q (F0 m 0 ls [])) :
    Met l y ws rm (kP Hs D cl tys av wc sz) Qc mc ms (va_A wc sz) := by
  refine Met.ofW (cc := cc) (maxL := maxL) (ret := ret) hy hw ?_
  intro p e s m args below meth c s₁ B hml hv
  obtain ⟨rfl, hsz, hP, hK, hD0, hE⟩ := hv
  have hl := lv_entry av (n := maxL) hlen
  rw [lg_entry_eq]
  generalize (lg_sl av ++ List.replicate (maxL - (lg_sl av).length) Slot.unset).toArray = ls at hl ⊢
  exact body p e s m _ below meth c ls s.heap [] (va_A wc sz) _ rfl B.exec B.bytes hml B.returns (atoms_spec (ws := ws) B.pre) (findClass_of_methodNamed B.named) B.notSynchronized (name_of_methodNamed B.named B.method).1 hsz rfl hP hK (hD0.self (sz := sz)) va_S.rf (fun q h => Or.inr (by rw [← hsz]; exact h)) hE (fun q h => by
    rcases h with ⟨k, e2, h⟩ | h
    · exact hD0.2 k (q, e2) h
    · exact Nat.le_trans hE.2.1 (by rw [hsz]; exact h)) hl
section KRET
variable {p : Program} {l : Launch} {e : Env} {R : Room} {s : State} {m : MethodId} {args : Array Value} {below : List Frame} {meth : Method} {c : Code} {H : Heap} {locs : List Loc} {cells slots : Nat} {Q : State → Prop}
variable {cc : ByteArray} {pc : Nat} {ls : Array Slot} {rest : List Value} {D : va_G} {cl : List vw_C} {A : Nat → Prop} {tys : List (ClassId × FieldType)} {w wc : va_W} {sz mc ms : Nat}
theorem k_reti {post : Int32 → va_W → Prop} {v : Int32} (hQ : Q = MQ below (va_Qi post (kB D cl tys wc sz) (va_A wc sz)) args s mc ms A) (hx : p.tables.exec = Jvm.exec) (hb : c.code = cc) (hr : meth.sig.returnType = some .int) (hlk : meth.locks = false) (hAe : A = va_A wc sz) (hK : va_K D cl tys s) (hP : va_P D cl w H) (hD : va_D A w) (hS : va_S A s.heap H locs) (hl : wc.length ≤ w.length) (hc : cells ≤ mc) (hs : slots ≤ ms) (hpost : post v w) (hdg : decode cc pc = .ok (.ireturn, 1)) :
    W p l e R s m args below meth c H locs cells slots Q (F0 m pc ls [.int v]) := by
  subst hAe
  subst hQ
  refine W.widen hc hs ?_
  exact W.iret hx hb hr (fun t ht hW => ⟨⟨v, w, rfl, hpost, hl, by rw [ht]; exact hP, va_K.moved hW.alike hK, hD⟩, hS.F ht⟩) hS.2.2 hdg
theorem k_retz {post : Int32 → va_W → Prop} {v : Int32} (hQ : Q = MQ below (va_Qi post (kB D cl tys wc sz) (va_A wc sz)) args s mc ms A) (hx : p.tables.exec = Jvm.exec) (hb : c.code = cc) (hr : meth.sig.returnType = some .boolean) (hlk : meth.locks = false) (hAe : A = va_A wc sz) (hK : va_K D cl tys s) (hP : va_P D cl w H) (hD : va_D A w) (hS : va_S A s.heap H locs) (hl : wc.length ≤ w.length) (hc : cells ≤ mc) (hs : slots ≤ ms) (hn : narrow .boolean (.int v) = .int v) (hpost : post v w) (hdg : decode cc pc = .ok (.ireturn, 1)) :
    W p l e R s m args below meth c H locs cells slots Q (F0 m pc ls [.int v]) := by
  subst hAe
  subst hQ
  refine W.widen hc hs ?_
  exact W.zret hx hb hr hn (fun t ht hW => ⟨⟨v, w, rfl, hpost, hl, by rw [ht]; exact hP, va_K.moved hW.alike hK, hD⟩, hS.F ht⟩) hS.2.2 hdg
theorem k_retl {post : Int64 → va_W → Prop} {v : Int64} (hQ : Q = MQ below (va_Ql post (kB D cl tys wc sz) (va_A wc sz)) args s mc ms A) (hx : p.tables.exec = Jvm.exec) (hb : c.code = cc) (hr : meth.sig.returnType = some .long) (hlk : meth.locks = false) (hAe : A = va_A wc sz) (hK : va_K D cl tys s) (hP : va_P D cl w H) (hD : va_D A w) (hS : va_S A s.heap H locs) (hl : wc.length ≤ w.length) (hc : cells ≤ mc) (hs : slots ≤ ms) (hpost : post v w) (hdg : decode cc pc = .ok (.lreturn, 1)) :
    W p l e R s m args below meth c H locs cells slots Q (F0 m pc ls [.long v]) := by
  subst hAe
  subst hQ
  refine W.widen hc hs ?_
  exact W.lret hx hb hr (fun t ht hW => ⟨⟨v, w, rfl, hpost, hl, by rw [ht]; exact hP, va_K.moved hW.alike hK, hD⟩, hS.F ht⟩) hS.2.2 hdg
theorem k_retv {post : va_W → Prop} (hQ : Q = MQ below (va_Qv post (kB D cl tys wc sz) (va_A wc sz)) args s mc ms A) (hx : p.tables.exec = Jvm.exec) (hb : c.code = cc) (hr : meth.sig.returnType = none) (hlk : meth.locks = false) (hAe : A = va_A wc sz) (hK : va_K D cl tys s) (hP : va_P D cl w H) (hD : va_D A w) (hS : va_S A s.heap H locs) (hl : wc.length ≤ w.length) (hc : cells ≤ mc) (hs : slots ≤ ms) (hpost : post w) (hdg : decode cc pc = .ok (.return_, 1)) :
    W p l e R s m args below meth c H locs cells slots Q (F0 m pc ls []) := by
  subst hAe
  subst hQ
  refine W.widen hc hs ?_
  exact W.vret hx hb hr (fun t ht hW => ⟨⟨w, rfl, hpost, hl, by rw [ht]; exact hP, va_K.moved hW.alike hK, hD⟩, hS.F ht⟩) hS.2.2 hdg
theorem k_retr {post : Nat → va_W → Prop} {a : Nat} {rt : FieldType} (hQ : Q = MQ below (va_Qr (fun _ : va_W => True) (fun w a t => post a w ∧ kB D cl tys wc sz w t) (va_A wc sz)) args s mc ms A) (hx : p.tables.exec = Jvm.exec) (hb : c.code = cc) (hr : meth.sig.returnType = some rt) (hrt : (∃ n, rt = .object n) ∨ ∃ t, rt = .array t) (hlk : meth.locks = false) (hAe : A = va_A wc sz) (hK : va_K D cl tys s) (hP : va_P D cl w H) (hD : va_D A w) (hS : va_S A s.heap H locs) (hl : wc.length ≤ w.length) (hc : cells ≤ mc) (hs : slots ≤ ms) (hpost : post a w) (hdg : decode cc pc = .ok (.areturn, 1)) :
    W p l e R s m args below meth c H locs cells slots Q (F0 m pc ls [.ref a]) := by
  subst hAe
  subst hQ
  refine W.widen hc hs ?_
  exact W.aret hx hb hr hrt (Or.inr ⟨a, rfl⟩) (fun t ht hW => ⟨⟨w, a, rfl, trivial, hpost, hl, by rw [ht]; exact hP, va_K.moved hW.alike hK, hD⟩, hS.F ht⟩) hS.2.2 hdg
end KRET
section KCALL
variable {p : Program} {l : Launch} {e : Env} {R : Room} {s : State} {m : MethodId} {args : Array Value} {below : List Frame} {meth : Method} {c : Code} {H : Heap} {locs : List Loc} {cells slots : Nat} {Q : State → Prop}
variable {pc : Nat} {ls : Array Slot} {rest st0 : List Value} {D : va_G} {cl : List vw_C} {A : Nat → Prop} {tys : List (ClassId × FieldType)} {ws wc : va_W} {H0 : Heap} {mc ms : Nat} {av : Array Value}
theorem ck_len {is : List Nat} (hC : is.map (fun i => ws[i]?) = wc.map some) : is.length = wc.length := by
  have h := congrArg List.length hC
  simpa using h
theorem ck_i {post : Int32 → va_W → Prop} (hr : va_Run p l e R s m args below meth c H locs cells slots mc ms (F0 m pc ls st0) rest (va_Qi post (kB D cl tys wc H.size) (va_A wc H.size) av) (va_A wc H.size)) (hP : va_P D cl ws H) (hD : va_D A ws) (hS : va_S A H0 H locs) (hA : ∀ q, H0.size ≤ q → A q) (is : List Nat) (hC : is.map (fun i => ws[i]?) = wc.map some) (hn : va_nd is = true)
    (kk : ∀ (r : Int32) (w1 : va_W) (H1 : Heap) (locs1 : List Loc), post r w1 → va_P D cl (ck_set ws is w1) H1 → va_D A (ck_set ws is w1) → va_S A H0 H1 locs1 → W p l e R s m args below meth c H1 locs1 (cells + mc) (slots + ms) Q (F0 m (pc + 3) ls (.int r :: rest))) : W p l e R s m args below meth c H locs cells slots Q (F0 m pc ls st0) := by
  have hF := va_free hD hS hA is hC
  refine va_calli hr hS (fun q _ h => hF q h) hF fun r u t H1 locs1 ht hvm hp hB hz hk hS1 => ?_
  obtain ⟨hl, hP1, hK1, hD1⟩ := hB
  rw [ht] at hP1
  obtain ⟨g1, g2⟩ := ck_join hP hD is hC hn (by rw [ck_len hC]; exact hl) hk hF hP1 hD1
  exact kk r u H1 locs1 hp g1 g2 hS1
theorem ck_l {post : Int64 → va_W → Prop} (hr : va_Run p l e R s m args below meth c H locs cells slots mc ms (F0 m pc ls st0) rest (va_Ql post (kB D cl tys wc H.size) (va_A wc H.size) av) (va_A wc H.size)) (hP : va_P D cl ws H) (hD : va_D A ws) (hS : va_S A H0 H locs) (hA : ∀ q, H0.size ≤ q → A q) (is : List Nat) (hC : is.map (fun i => ws[i]?) = wc.map some) (hn : va_nd is = true)
    (kk : ∀ (r : Int64) (w1 : va_W) (H1 : Heap) (locs1 : List Loc), post r w1 → va_P D cl (ck_set ws is w1) H1 → va_D A (ck_set ws is w1) → va_S A H0 H1 locs1 → W p l e R s m args below meth c H1 locs1 (cells + mc) (slots + ms) Q (F0 m (pc + 3) ls (.long r :: rest))) : W p l e R s m args below meth c H locs cells slots Q (F0 m pc ls st0) := by
  have hF := va_free hD hS hA is hC
  refine va_calll hr hS (fun q _ h => hF q h) hF fun r u t H1 locs1 ht hvm hp hB hz hk hS1 => ?_
  obtain ⟨hl, hP1, hK1, hD1⟩ := hB
  rw [ht] at hP1
  obtain ⟨g1, g2⟩ := ck_join hP hD is hC hn (by rw [ck_len hC]; exact hl) hk hF hP1 hD1
  exact kk r u H1 locs1 hp g1 g2 hS1
theorem ck_v {post : va_W → Prop} (hr : va_Run p l e R s m args below meth c H locs cells slots mc ms (F0 m pc ls st0) rest (va_Qv post (kB D cl tys wc H.size) (va_A wc H.size) av) (va_A wc H.size)) (hP : va_P D cl ws H) (hD : va_D A ws) (hS : va_S A H0 H locs) (hA : ∀ q, H0.size ≤ q → A q) (is : List Nat) (hC : is.map (fun i => ws[i]?) = wc.map some) (hn : va_nd is = true)
    (kk : ∀ (w1 : va_W) (H1 : Heap) (locs1 : List Loc), post w1 → va_P D cl (ck_set ws is w1) H1 → va_D A (ck_set ws is w1) → va_S A H0 H1 locs1 → W p l e R s m args below meth c H1 locs1 (cells + mc) (slots + ms) Q (F0 m (pc + 3) ls rest)) : W p l e R s m args below meth c H locs cells slots Q (F0 m pc ls st0) := by
  have hF := va_free hD hS hA is hC
  refine va_callv hr hS (fun q _ h => hF q h) hF fun u t H1 locs1 ht hvm hp hB hz hk hS1 => ?_
  obtain ⟨hl, hP1, hK1, hD1⟩ := hB
  rw [ht] at hP1
  obtain ⟨g1, g2⟩ := ck_join hP hD is hC hn (by rw [ck_len hC]; exact hl) hk hF hP1 hD1
  exact kk u H1 locs1 hp g1 g2 hS1
theorem ck_r {post : Nat → va_W → Prop} (hr : va_Run p l e R s m args below meth c H locs cells slots mc ms (F0 m pc ls st0) rest (va_Qr (fun _ : va_W => True) (fun w a t => post a w ∧ kB D cl tys wc H.size w t) (va_A wc H.size) av) (va_A wc H.size)) (hP : va_P D cl ws H) (hD : va_D A ws) (hS : va_S A H0 H locs) (hA : ∀ q, H0.size ≤ q → A q) (is : List Nat) (hC : is.map (fun i => ws[i]?) = wc.map some) (hn : va_nd is = true)
    (kk : ∀ (a : Nat) (w1 : va_W) (H1 : Heap) (locs1 : List Loc), post a w1 → va_P D cl (ck_set ws is w1) H1 → va_D A (ck_set ws is w1) → va_S A H0 H1 locs1 → W p l e R s m args below meth c H1 locs1 (cells + mc) (slots + ms) Q (F0 m (pc + 3) ls (.ref a :: rest))) : W p l e R s m args below meth c H locs cells slots Q (F0 m pc ls st0) := by
  have hF := va_free hD hS hA is hC
  refine va_callr hr hS (fun q _ h => hF q h) hF fun u a t H1 locs1 ht hvm _ hB hz hk hS1 => ?_
  obtain ⟨hp, hl, hP1, hK1, hD1⟩ := hB
  rw [ht] at hP1
  obtain ⟨g1, g2⟩ := ck_join hP hD is hC hn (by rw [ck_len hC]; exact hl) hk hF hP1 hD1
  exact kk a u H1 locs1 hp g1 g2 hS1
end KCALL
/-- a method's words: its own code, then all words -/
abbrev mws (y : MethodName) (bytes : ByteArray) (maxL : Nat) (ret : Option FieldType) : List Cond := Cond.code y bytes maxL ret :: mw
theorem mws_at {y : MethodName} {bytes : ByteArray} {maxL : Nat} {ret : Option FieldType} {args : Array Value} {s : State} (ht : ∀ w ∈ mw, w.before args s = true) (hc : Cond.code y bytes maxL ret ∈ mw) : ∀ w ∈ mws y bytes maxL ret, ∀ (a' : Array Value) (U : State), s.WarmedH U.vm → w.before a' U = true := by
  intro w hw a' U hW
  have hm : w ∈ mw := (List.mem_cons.mp hw).elim (fun e => by rw [e]; exact hc) id
  exact word_at hW (mw_good w hm) (ht w hm)
theorem gw_B {R : Room} {s : State} {args : Array Value} {own : String} {index : Nat} {y : MethodName} {bytes : ByteArray} {maxL : Nat} {ret : Option FieldType} {rm : Room} (n : Nat) (ht : ∀ w ∈ mw, w.before args s = true) (hc : Cond.code y bytes maxL ret ∈ mw) (hi : Cond.initialized y.cls ∈ mw) (hl : Cond.methodLink own index y ∈ mw)
    (hd : y.cls ≠ "java/lang/invoke/MethodHandle" ∧ y.cls ≠ "java/lang/invoke/VarHandle" ∧ (parseMethodDescriptor y.desc).map (fun d => d.parameters.length) = some n) (hR : rm.frames + 1 ≤ R.frames ∧ 8 + (maxL + 11) + rm.locals ≤ R.locals) : CallB R s args own index y bytes maxL ret (mws y bytes maxL ret) rm rm.cells rm.slots n := by
  refine ⟨rfl, rfl, hR.1, hR.2, mws_at ht hc, List.mem_cons_self, ht _ hc, ht _ hi, ⟨hd.1, hd.2.1⟩, fun sig h => ?_, ht _ hl⟩
  have h2 := hd.2.2
  rw [h] at h2
  exact (Option.some.inj h2).symm
theorem gw_V {R : Room} {s : State} {args : Array Value} {own C : String} {index : Nat} {y : MethodName} {bytes : ByteArray} {maxL : Nat} {ret : Option FieldType} {rm : Room} (n : Nat) (ht : ∀ w ∈ mw, w.before args s = true) (hc : Cond.code y bytes maxL ret ∈ mw) (hi : Cond.initialized y.cls ∈ mw) (hl : Cond.methodLink own index y ∈ mw) (hin : Cond.instanceMethod y ∈ mw) (hse : Cond.selects C y y ∈ mw)
    (hd : y.cls ≠ "java/lang/invoke/MethodHandle" ∧ y.cls ≠ "java/lang/invoke/VarHandle" ∧ (parseMethodDescriptor y.desc).map (fun d => d.parameters.length) = some n) (hR : rm.frames + 1 ≤ R.frames ∧ 8 + (maxL + 11) + rm.locals ≤ R.locals) : CallW R s args own C index y bytes maxL ret (mws y bytes maxL ret) rm rm.cells rm.slots n := ⟨gw_B n ht hc hi hl hd hR, ht _ hin, ht _ hse⟩
theorem gw_S {R : Room} {s : State} {args : Array Value} {own : String} {index : Nat} {y : MethodName} {bytes : ByteArray} {maxL : Nat} {ret : Option FieldType} {rm : Room} (n : Nat) (ht : ∀ w ∈ mw, w.before args s = true) (hc : Cond.code y bytes maxL ret ∈ mw) (hi : Cond.initialized y.cls ∈ mw) (hl : Cond.methodLink own index y ∈ mw) (hst : Cond.static y ∈ mw)
    (hd : y.cls ≠ "java/lang/invoke/MethodHandle" ∧ y.cls ≠ "java/lang/invoke/VarHandle" ∧ (parseMethodDescriptor y.desc).map (fun d => d.parameters.length) = some n) (hR : rm.frames + 1 ≤ R.frames ∧ 8 + (maxL + 11) + rm.locals ≤ R.locals) : CallB R s args own index y bytes maxL ret (mws y bytes maxL ret) rm rm.cells rm.slots n ∧ (Cond.static y).before args s = true := ⟨gw_B n ht hc hi hl hd hR, ht _ hst⟩
/-- the kinds of arrays: ints, yes or no, longs -/
abbrev ty3 (cI cZ cL : ClassId) : List (ClassId × FieldType) := [(cI, .int), (cZ, .boolean), (cL, .long)]
theorem gw_I {R : Room} {s : State} {args : Array Value} {own : String} {index : Nat} {y : MethodName} {bytes : ByteArray} {maxL : Nat} {rm : Room} (n : Nat) (ht : ∀ w ∈ mw, w.before args s = true) (hc : Cond.code y bytes maxL none ∈ mw) (hi : Cond.initialized y.cls ∈ mw) (hl : Cond.methodLink own index y ∈ mw) (hin : Cond.instanceMethod y ∈ mw)
    (hd : y.name = "<init>" ∧ y.cls ≠ "java/lang/invoke/MethodHandle" ∧ y.cls ≠ "java/lang/invoke/VarHandle" ∧ (parseMethodDescriptor y.desc).map (fun d => d.parameters.length) = some n) (hR : rm.frames + 1 ≤ R.frames ∧ 8 + (maxL + 11) + rm.locals ≤ R.locals) : CallB R s args own index y bytes maxL none (mws y bytes maxL none) rm rm.cells rm.slots n ∧ y.name = "<init>" ∧ (Cond.instanceMethod y).before args s = true := ⟨gw_B n ht hc hi hl hd.2 hR, hd.1, ht _ hin⟩
theorem gw_N {R : Room} {s : State} {args : Array Value} {own host : String} {index : Nat} {y : MethodName} {bytes : ByteArray} {maxL : Nat} {rm : Room} (n : Nat) (ht : ∀ w ∈ mw, w.before args s = true) (hc : Cond.code y bytes maxL none ∈ mw) (hi : Cond.initialized y.cls ∈ mw) (hl : va_Nw (.methodLinkNest own index y host) s) (hin : Cond.instanceMethod y ∈ mw)
    (hd : y.name = "<init>" ∧ y.cls ≠ "java/lang/invoke/MethodHandle" ∧ y.cls ≠ "java/lang/invoke/VarHandle" ∧ (parseMethodDescriptor y.desc).map (fun d => d.parameters.length) = some n) (hR : rm.frames + 1 ≤ R.frames ∧ 8 + (maxL + 11) + rm.locals ≤ R.locals) : va_CN R s args own index y host bytes maxL none (mws y bytes maxL none) rm rm.cells rm.slots n ∧ y.name = "<init>" ∧ (Cond.instanceMethod y).before args s = true := by
  refine ⟨⟨⟨rfl, rfl, hR.1, hR.2, mws_at ht hc, List.mem_cons_self⟩, ht _ hc, ht _ hi, ⟨hd.2.1, hd.2.2.1⟩, fun sig h => ?_, va_Nw.use rfl hl⟩, hd.1, ht _ hin⟩
  have h2 := hd.2.2.2
  rw [h] at h2
  exact (Option.some.inj h2).symm
end
section
set_option maxHeartbeats 4000000 in
set_option maxRecDepth 100000 in
/-- how many -/
theorem c_Cl_count (l : Launch) (Hs : Heap) (D : va_G) (cI cZ cL : ClassId) (h : Nat) (a1 : Nat) (a2 : Nat) (a3 : Nat) (a4 : Nat) (n : Nat) : kI l Hs D kcl (ty3 cI cZ cL) y_Cl_count (mws y_Cl_count b_Cl_count 1 (Option.some Jvm.ClassFile.FieldType.int)) ({ frames := 0, cells := 0, slots := 0, locals := 0 } : Room) [.ref h] [(h, .inr (0, [.ref a1, .ref a2, .ref a3, .ref a4, .int (nI n)]))] (fun r w => r = nI n ∧ w = [(h, .inr (0, [.ref a1, .ref a2, .ref a3, .ref a4, .int (nI n)]))]) := by
  intro sz
  refine k_of (cc := b_Cl_count) (maxL := 1) (ret := (Option.some Jvm.ClassFile.FieldType.int)) (by decide) rfl (Nat.le_of_ble_eq_true rfl) ?_
  intro p e s m args below meth c ls H locs A Q hQ hx hb hml hr hts hown hlk hnm hsz hAe hP hK hD hS hA hE hAH hl
  have ht : ∀ w ∈ mw, w.before args s = true := fun w h => hts w (List.mem_cons_of_mem _ h)
  have hl : lv_has ls 1 [(0, .ref h)] := hl
  refine lv_aload_n hx hb d_Cl_count_0 rfl (lv_at hl 0 rfl) ?_
  refine va_get (D := D) (ci := 0) (v := .int (nI n)) (C := R_Cl) (T := T_Cl) (N := 5) hx hb ht u_Cl hown hK hP 0 rfl rfl 4 (by decide) (ht _ wd_56) (fun _ h9 => h9) rfl d_Cl_count_1 ?_
  exact k_reti hQ hx hb hr hlk hAe hK hP hD hS (Nat.le_of_ble_eq_true rfl) (Nat.le_of_ble_eq_true rfl) (Nat.le_of_ble_eq_true rfl) ⟨rfl, rfl⟩ d_Cl_count_4
set_option maxHeartbeats 4000000 in
set_option maxRecDepth 100000 in
theorem c_Cl_idAt (l : Launch) (Hs : Heap) (D : va_G) (cI cZ cL : ClassId) (h : Nat) (a1 : Nat) (a2 : Nat) (a3 : Nat) (a4 : Nat) (n : Nat) (f : Nat → Nat) (k : Nat) (hk : k < 10) : kI l Hs D kcl (ty3 cI cZ cL) y_Cl_idAt (mws y_Cl_idAt b_Cl_idAt 2 (Option.some Jvm.ClassFile.FieldType.int)) ({ frames := 0, cells := 0, slots := 0, locals := 0 } : Room) [.ref h, .int (nI k)] [(h, .inr (0, [.ref a1, .ref a2, .ref a3, .ref a4, .int (nI n)])), (a1, .inl (cI, 10, .inl (wA f)))] (fun r w => r = nI (f k) ∧ w = [(h, .inr (0, [.ref a1, .ref a2, .ref a3, .ref a4, .int (nI n)])), (a1, .inl (cI, 10, .inl (wA f)))]) := by
  intro sz
  refine k_of (cc := b_Cl_idAt) (maxL := 2) (ret := (Option.some Jvm.ClassFile.FieldType.int)) (by decide) rfl (Nat.le_of_ble_eq_true rfl) ?_
  intro p e s m args below meth c ls H locs A Q hQ hx hb hml hr hts hown hlk hnm hsz hAe hP hK hD hS hA hE hAH hl
  have ht : ∀ w ∈ mw, w.before args s = true := fun w h => hts w (List.mem_cons_of_mem _ h)
  have hl : lv_has ls 2 [(0, .ref h), (1, .int (nI k))] := hl
  refine lv_aload_n hx hb d_Cl_idAt_0 rfl (lv_at hl 0 rfl) ?_
  refine va_get (D := D) (ci := 0) (v := .ref a1) (C := R_Cl) (T := T_Cl) (N := 5) hx hb ht u_Cl hown hK hP 0 rfl rfl 0 (by decide) (ht _ wd_52) (fun _ h9 => h9) rfl d_Cl_idAt_1 ?_
  refine lv_iload_n hx hb d_Cl_idAt_4 rfl (lv_at hl 1 rfl) ?_
  refine wi_ald hx hb hK hP 1 0 rfl rfl (by omega) (by omega) d_Cl_idAt_5 ?_
  exact k_reti hQ hx hb hr hlk hAe hK hP hD hS (Nat.le_of_ble_eq_true rfl) (Nat.le_of_ble_eq_true rfl) (Nat.le_of_ble_eq_true rfl) ⟨rfl, rfl⟩ d_Cl_idAt_6
set_option maxHeartbeats 4000000 in
set_option maxRecDepth 100000 in
theorem c_Cl_spanAt (l : Launch) (Hs : Heap) (D : va_G) (cI cZ cL : ClassId) (h : Nat) (a1 : Nat) (a2 : Nat) (a3 : Nat) (a4 : Nat) (n : Nat) (f : Nat → Nat) (k : Nat) (hk : k < 10) : kI l Hs D kcl (ty3 cI cZ cL) y_Cl_spanAt (mws y_Cl_spanAt b_Cl_spanAt 2 (Option.some Jvm.ClassFile.FieldType.int)) ({ frames := 0, cells := 0, slots := 0, locals := 0 } : Room) [.ref h, .int (nI k)] [(h, .inr (0, [.ref a1, .ref a2, .ref a3, .ref a4, .int (nI n)])), (a2, .inl (cI, 10, .inl (wA f)))] (fun r w => r = nI (f k) ∧ w = [(h, .inr (0, [.ref a1, .ref a2, .ref a3, .ref a4, .int (nI n)])), (a2, .inl (cI, 10, .inl (wA f)))]) := by
  intro sz
  refine k_of (cc := b_Cl_spanAt) (maxL := 2) (ret := (Option.some Jvm.ClassFile.FieldType.int)) (by decide) rfl (Nat.le_of_ble_eq_true rfl) ?_
  intro p e s m args below meth c ls H locs A Q hQ hx hb hml hr hts hown hlk hnm hsz hAe hP hK hD hS hA hE hAH hl
  have ht : ∀ w ∈ mw, w.before args s = true := fun w h => hts w (List.mem_cons_of_mem _ h)
  have hl : lv_has ls 2 [(0, .ref h), (1, .int (nI k))] := hl
  refine lv_aload_n hx hb d_Cl_spanAt_0 rfl (lv_at hl 0 rfl) ?_
  refine va_get (D := D) (ci := 0) (v := .ref a2) (C := R_Cl) (T := T_Cl) (N := 5) hx hb ht u_Cl hown hK hP 0 rfl rfl 1 (by decide) (ht _ wd_53) (fun _ h9 => h9) rfl d_Cl_spanAt_1 ?_
  refine lv_iload_n hx hb d_Cl_spanAt_4 rfl (lv_at hl 1 rfl) ?_
  refine wi_ald hx hb hK hP 1 0 rfl rfl (by omega) (by omega) d_Cl_spanAt_5 ?_
  exact k_reti hQ hx hb hr hlk hAe hK hP hD hS (Nat.le_of_ble_eq_true rfl) (Nat.le_of_ble_eq_true rfl) (Nat.le_of_ble_eq_true rfl) ⟨rfl, rfl⟩ d_Cl_spanAt_6
set_option maxHeartbeats 4000000 in
set_option maxRecDepth 100000 in
theorem c_Cl_waitAt (l : Launch) (Hs : Heap) (D : va_G) (cI cZ cL : ClassId) (h : Nat) (a1 : Nat) (a2 : Nat) (a3 : Nat) (a4 : Nat) (n : Nat) (f : Nat → Nat) (k : Nat) (hk : k < 10) : kI l Hs D kcl (ty3 cI cZ cL) y_Cl_waitAt (mws y_Cl_waitAt b_Cl_waitAt 2 (Option.some Jvm.ClassFile.FieldType.int)) ({ frames := 0, cells := 0, slots := 0, locals := 0 } : Room) [.ref h, .int (nI k)] [(h, .inr (0, [.ref a1, .ref a2, .ref a3, .ref a4, .int (nI n)])), (a3, .inl (cI, 10, .inl (wA f)))] (fun r w => r = nI (f k) ∧ w = [(h, .inr (0, [.ref a1, .ref a2, .ref a3, .ref a4, .int (nI n)])), (a3, .inl (cI, 10, .inl (wA f)))]) := by
  intro sz
  refine k_of (cc := b_Cl_waitAt) (maxL := 2) (ret := (Option.some Jvm.ClassFile.FieldType.int)) (by decide) rfl (Nat.le_of_ble_eq_true rfl) ?_
  intro p e s m args below meth c ls H locs A Q hQ hx hb hml hr hts hown hlk hnm hsz hAe hP hK hD hS hA hE hAH hl
  have ht : ∀ w ∈ mw, w.before args s = true := fun w h => hts w (List.mem_cons_of_mem _ h)
  have hl : lv_has ls 2 [(0, .ref h), (1, .int (nI k))] := hl
  refine lv_aload_n hx hb d_Cl_waitAt_0 rfl (lv_at hl 0 rfl) ?_
  refine va_get (D := D) (ci := 0) (v := .ref a3) (C := R_Cl) (T := T_Cl) (N := 5) hx hb ht u_Cl hown hK hP 0 rfl rfl 2 (by decide) (ht _ wd_54) (fun _ h9 => h9) rfl d_Cl_waitAt_1 ?_
  refine lv_iload_n hx hb d_Cl_waitAt_4 rfl (lv_at hl 1 rfl) ?_
  refine wi_ald hx hb hK hP 1 0 rfl rfl (by omega) (by omega) d_Cl_waitAt_5 ?_
  exact k_reti hQ hx hb hr hlk hAe hK hP hD hS (Nat.le_of_ble_eq_true rfl) (Nat.le_of_ble_eq_true rfl) (Nat.le_of_ble_eq_true rfl) ⟨rfl, rfl⟩ d_Cl_waitAt_6
set_option maxHeartbeats 4000000 in
set_option maxRecDepth 100000 in
theorem c_Cl_worstAt (l : Launch) (Hs : Heap) (D : va_G) (cI cZ cL : ClassId) (h : Nat) (a1 : Nat) (a2 : Nat) (a3 : Nat) (a4 : Nat) (n : Nat) (f : Nat → Nat) (k : Nat) (hk : k < 10) : kI l Hs D kcl (ty3 cI cZ cL) y_Cl_worstAt (mws y_Cl_worstAt b_Cl_worstAt 2 (Option.some Jvm.ClassFile.FieldType.int)) ({ frames := 0, cells := 0, slots := 0, locals := 0 } : Room) [.ref h, .int (nI k)] [(h, .inr (0, [.ref a1, .ref a2, .ref a3, .ref a4, .int (nI n)])), (a4, .inl (cI, 10, .inl (wA f)))] (fun r w => r = nI (f k) ∧ w = [(h, .inr (0, [.ref a1, .ref a2, .ref a3, .ref a4, .int (nI n)])), (a4, .inl (cI, 10, .inl (wA f)))]) := by
  intro sz
  refine k_of (cc := b_Cl_worstAt) (maxL := 2) (ret := (Option.some Jvm.ClassFile.FieldType.int)) (by decide) rfl (Nat.le_of_ble_eq_true rfl) ?_
  intro p e s m args below meth c ls H locs A Q hQ hx hb hml hr hts hown hlk hnm hsz hAe hP hK hD hS hA hE hAH hl
  have ht : ∀ w ∈ mw, w.before args s = true := fun w h => hts w (List.mem_cons_of_mem _ h)
  have hl : lv_has ls 2 [(0, .ref h), (1, .int (nI k))] := hl
  refine lv_aload_n hx hb d_Cl_worstAt_0 rfl (lv_at hl 0 rfl) ?_
  refine va_get (D := D) (ci := 0) (v := .ref a4) (C := R_Cl) (T := T_Cl) (N := 5) hx hb ht u_Cl hown hK hP 0 rfl rfl 3 (by decide) (ht _ wd_55) (fun _ h9 => h9) rfl d_Cl_worstAt_1 ?_
  refine lv_iload_n hx hb d_Cl_worstAt_4 rfl (lv_at hl 1 rfl) ?_
  refine wi_ald hx hb hK hP 1 0 rfl rfl (by omega) (by omega) d_Cl_worstAt_5 ?_
  exact k_reti hQ hx hb hr hlk hAe hK hP hD hS (Nat.le_of_ble_eq_true rfl) (Nat.le_of_ble_eq_true rfl) (Nat.le_of_ble_eq_true rfl) ⟨rfl, rfl⟩ d_Cl_worstAt_6
set_option maxHeartbeats 4000000 in
set_option maxRecDepth 100000 in
theorem c_Cl_copyAt (l : Launch) (Hs : Heap) (D : va_G) (cI cZ cL : ClassId) (h : Nat) (a1 : Nat) (a2 : Nat) (a3 : Nat) (a4 : Nat) (o : Nat) (b1 : Nat) (b2 : Nat) (b3 : Nat) (b4 : Nat) (n : Nat) (q : Nat) (f1 : Nat → Nat) (f2 : Nat → Nat) (f3 : Nat → Nat) (f4 : Nat → Nat) (g1 : Nat → Nat) (g2 : Nat → Nat) (g3 : Nat → Nat) (g4 : Nat → Nat) (j : Nat) (k : Nat) (hj : j < 10) (hk : k < 10) : kV l Hs D kcl (ty3 cI cZ cL) y_Cl_copyAt (mws y_Cl_copyAt b_Cl_copyAt 4 (Option.none : Option Jvm.ClassFile.FieldType)) ({ frames := 0, cells := 0, slots := 0, locals := 0 } : Room) [.ref h, .int (nI j), .ref o, .int (nI k)] [(h, .inr (0, [.ref a1, .ref a2, .ref a3, .ref a4, .int (nI n)])), (a1, .inl (cI, 10, .inl (wA f1))), (a2, .inl (cI, 10, .inl (wA f2))), (a3, .inl (cI, 10, .inl (wA f3))), (a4, .inl (cI, 10, .inl (wA f4))), (o, .inr (0, [.ref b1, .ref b2, .ref b3, .ref b4, .int (nI q)])), (b1, .inl (cI, 10, .inl (wA g1))), (b2, .inl (cI, 10, .inl (wA g2))), (b3, .inl (cI, 10, .inl (wA g3))), (b4, .inl (cI, 10, .inl (wA g4)))] (fun w => w = [(h, .inr (0, [.ref a1, .ref a2, .ref a3, .ref a4, .int (nI n)])), (a1, .inl (cI, 10, .inl (wA (va_up f1 j (g1 k))))), (a2, .inl (cI, 10, .inl (wA (va_up f2 j (g2 k))))), (a3, .inl (cI, 10, .inl (wA (va_up f3 j (g3 k))))), (a4, .inl (cI, 10, .inl (wA (va_up f4 j (g4 k))))), (o, .inr (0, [.ref b1, .ref b2, .ref b3, .ref b4, .int (nI q)])), (b1, .inl (cI, 10, .inl (wA g1))), (b2, .inl (cI, 10, .inl (wA g2))), (b3, .inl (cI, 10, .inl (wA g3))), (b4, .inl (cI, 10, .inl (wA g4)))]) := by
  intro sz
  refine k_of (cc := b_Cl_copyAt) (maxL := 4) (ret := (Option.none : Option Jvm.ClassFile.FieldType)) (by decide) rfl (Nat.le_of_ble_eq_true rfl) ?_
  intro p e s m args below meth c ls H locs A Q hQ hx hb hml hr hts hown hlk hnm hsz hAe hP hK hD hS hA hE hAH hl
  have ht : ∀ w ∈ mw, w.before args s = true := fun w h => hts w (List.mem_cons_of_mem _ h)
  have hl : lv_has ls 4 [(0, .ref h), (1, .int (nI j)), (2, .ref o), (3, .int (nI k))] := hl
  refine lv_aload_n hx hb d_Cl_copyAt_0 rfl (lv_at hl 0 rfl) ?_
  refine va_get (D := D) (ci := 0) (v := .ref a1) (C := R_Cl) (T := T_Cl) (N := 5) hx hb ht u_Cl hown hK hP 0 rfl rfl 0 (by decide) (ht _ wd_52) (fun _ h9 => h9) rfl d_Cl_copyAt_1 ?_
  refine lv_iload_n hx hb d_Cl_copyAt_4 rfl (lv_at hl 1 rfl) ?_
  refine lv_aload_n hx hb d_Cl_copyAt_5 rfl (lv_at hl 2 rfl) ?_
  refine va_get (D := D) (ci := 0) (v := .ref b1) (C := R_Cl) (T := T_Cl) (N := 5) hx hb ht u_Cl hown hK hP 5 rfl rfl 0 (by decide) (ht _ wd_52) (fun _ h9 => h9) rfl d_Cl_copyAt_6 ?_
  refine lv_iload_n hx hb d_Cl_copyAt_9 rfl (lv_at hl 3 rfl) ?_
  refine wi_ald hx hb hK hP 6 0 rfl rfl (by omega) (by omega) d_Cl_copyAt_10 ?_
  refine wi_ast hx hb hK hP hD hS 1 0 rfl rfl (by omega) (by omega) d_Cl_copyAt_11 (fun H locs hP hD hS => ?_)
  have hP : va_P D kcl [(h, .inr (0, [.ref a1, .ref a2, .ref a3, .ref a4, .int (nI n)])), (a1, .inl (cI, 10, .inl (wA (va_up f1 j (g1 k))))), (a2, .inl (cI, 10, .inl (wA f2))), (a3, .inl (cI, 10, .inl (wA f3))), (a4, .inl (cI, 10, .inl (wA f4))), (o, .inr (0, [.ref b1, .ref b2, .ref b3, .ref b4, .int (nI q)])), (b1, .inl (cI, 10, .inl (wA g1))), (b2, .inl (cI, 10, .inl (wA g2))), (b3, .inl (cI, 10, .inl (wA g3))), (b4, .inl (cI, 10, .inl (wA g4)))] H := hP
  have hD : va_D A [(h, .inr (0, [.ref a1, .ref a2, .ref a3, .ref a4, .int (nI n)])), (a1, .inl (cI, 10, .inl (wA (va_up f1 j (g1 k))))), (a2, .inl (cI, 10, .inl (wA f2))), (a3, .inl (cI, 10, .inl (wA f3))), (a4, .inl (cI, 10, .inl (wA f4))), (o, .inr (0, [.ref b1, .ref b2, .ref b3, .ref b4, .int (nI q)])), (b1, .inl (cI, 10, .inl (wA g1))), (b2, .inl (cI, 10, .inl (wA g2))), (b3, .inl (cI, 10, .inl (wA g3))), (b4, .inl (cI, 10, .inl (wA g4)))] := hD
  refine lv_aload_n hx hb d_Cl_copyAt_12 rfl (lv_at hl 0 rfl) ?_
  refine va_get (D := D) (ci := 0) (v := .ref a2) (C := R_Cl) (T := T_Cl) (N := 5) hx hb ht u_Cl hown hK hP 0 rfl rfl 1 (by decide) (ht _ wd_53) (fun _ h9 => h9) rfl d_Cl_copyAt_13 ?_
  refine lv_iload_n hx hb d_Cl_copyAt_16 rfl (lv_at hl 1 rfl) ?_
  refine lv_aload_n hx hb d_Cl_copyAt_17 rfl (lv_at hl 2 rfl) ?_
  refine va_get (D := D) (ci := 0) (v := .ref b2) (C := R_Cl) (T := T_Cl) (N := 5) hx hb ht u_Cl hown hK hP 5 rfl rfl 1 (by decide) (ht _ wd_53) (fun _ h9 => h9) rfl d_Cl_copyAt_18 ?_
  refine lv_iload_n hx hb d_Cl_copyAt_21 rfl (lv_at hl 3 rfl) ?_
  refine wi_ald hx hb hK hP 7 0 rfl rfl (by omega) (by omega) d_Cl_copyAt_22 ?_
  refine wi_ast hx hb hK hP hD hS 2 0 rfl rfl (by omega) (by omega) d_Cl_copyAt_23 (fun H locs hP hD hS => ?_)
  have hP : va_P D kcl [(h, .inr (0, [.ref a1, .ref a2, .ref a3, .ref a4, .int (nI n)])), (a1, .inl (cI, 10, .inl (wA (va_up f1 j (g1 k))))), (a2, .inl (cI, 10, .inl (wA (va_up f2 j (g2 k))))), (a3, .inl (cI, 10, .inl (wA f3))), (a4, .inl (cI, 10, .inl (wA f4))), (o, .inr (0, [.ref b1, .ref b2, .ref b3, .ref b4, .int (nI q)])), (b1, .inl (cI, 10, .inl (wA g1))), (b2, .inl (cI, 10, .inl (wA g2))), (b3, .inl (cI, 10, .inl (wA g3))), (b4, .inl (cI, 10, .inl (wA g4)))] H := hP
  have hD : va_D A [(h, .inr (0, [.ref a1, .ref a2, .ref a3, .ref a4, .int (nI n)])), (a1, .inl (cI, 10, .inl (wA (va_up f1 j (g1 k))))), (a2, .inl (cI, 10, .inl (wA (va_up f2 j (g2 k))))), (a3, .inl (cI, 10, .inl (wA f3))), (a4, .inl (cI, 10, .inl (wA f4))), (o, .inr (0, [.ref b1, .ref b2, .ref b3, .ref b4, .int (nI q)])), (b1, .inl (cI, 10, .inl (wA g1))), (b2, .inl (cI, 10, .inl (wA g2))), (b3, .inl (cI, 10, .inl (wA g3))), (b4, .inl (cI, 10, .inl (wA g4)))] := hD
  refine lv_aload_n hx hb d_Cl_copyAt_24 rfl (lv_at hl 0 rfl) ?_
  refine va_get (D := D) (ci := 0) (v := .ref a3) (C := R_Cl) (T := T_Cl) (N := 5) hx hb ht u_Cl hown hK hP 0 rfl rfl 2 (by decide) (ht _ wd_54) (fun _ h9 => h9) rfl d_Cl_copyAt_25 ?_
  refine lv_iload_n hx hb d_Cl_copyAt_28 rfl (lv_at hl 1 rfl) ?_
  refine lv_aload_n hx hb d_Cl_copyAt_29 rfl (lv_at hl 2 rfl) ?_
  refine va_get (D := D) (ci := 0) (v := .ref b3) (C := R_Cl) (T := T_Cl) (N := 5) hx hb ht u_Cl hown hK hP 5 rfl rfl 2 (by decide) (ht _ wd_54) (fun _ h9 => h9) rfl d_Cl_copyAt_30 ?_
  refine lv_iload_n hx hb d_Cl_copyAt_33 rfl (lv_at hl 3 rfl) ?_
  refine wi_ald hx hb hK hP 8 0 rfl rfl (by omega) (by omega) d_Cl_copyAt_34 ?_
  refine wi_ast hx hb hK hP hD hS 3 0 rfl rfl (by omega) (by omega) d_Cl_copyAt_35 (fun H locs hP hD hS => ?_)
  have hP : va_P D kcl [(h, .inr (0, [.ref a1, .ref a2, .ref a3, .ref a4, .int (nI n)])), (a1, .inl (cI, 10, .inl (wA (va_up f1 j (g1 k))))), (a2, .inl (cI, 10, .inl (wA (va_up f2 j (g2 k))))), (a3, .inl (cI, 10, .inl (wA (va_up f3 j (g3 k))))), (a4, .inl (cI, 10, .inl (wA f4))), (o, .inr (0, [.ref b1, .ref b2, .ref b3, .ref b4, .int (nI q)])), (b1, .inl (cI, 10, .inl (wA g1))), (b2, .inl (cI, 10, .inl (wA g2))), (b3, .inl (cI, 10, .inl (wA g3))), (b4, .inl (cI, 10, .inl (wA g4)))] H := hP
  have hD : va_D A [(h, .inr (0, [.ref a1, .ref a2, .ref a3, .ref a4, .int (nI n)])), (a1, .inl (cI, 10, .inl (wA (va_up f1 j (g1 k))))), (a2, .inl (cI, 10, .inl (wA (va_up f2 j (g2 k))))), (a3, .inl (cI, 10, .inl (wA (va_up f3 j (g3 k))))), (a4, .inl (cI, 10, .inl (wA f4))), (o, .inr (0, [.ref b1, .ref b2, .ref b3, .ref b4, .int (nI q)])), (b1, .inl (cI, 10, .inl (wA g1))), (b2, .inl (cI, 10, .inl (wA g2))), (b3, .inl (cI, 10, .inl (wA g3))), (b4, .inl (cI, 10, .inl (wA g4)))] := hD
  refine lv_aload_n hx hb d_Cl_copyAt_36 rfl (lv_at hl 0 rfl) ?_
  refine va_get (D := D) (ci := 0) (v := .ref a4) (C := R_Cl) (T := T_Cl) (N := 5) hx hb ht u_Cl hown hK hP 0 rfl rfl 3 (by decide) (ht _ wd_55) (fun _ h9 => h9) rfl d_Cl_copyAt_37 ?_
  refine lv_iload_n hx hb d_Cl_copyAt_40 rfl (lv_at hl 1 rfl) ?_
  refine lv_aload_n hx hb d_Cl_copyAt_41 rfl (lv_at hl 2 rfl) ?_
  refine va_get (D := D) (ci := 0) (v := .ref b4) (C := R_Cl) (T := T_Cl) (N := 5) hx hb ht u_Cl hown hK hP 5 rfl rfl 3 (by decide) (ht _ wd_55) (fun _ h9 => h9) rfl d_Cl_copyAt_42 ?_
  refine lv_iload_n hx hb d_Cl_copyAt_45 rfl (lv_at hl 3 rfl) ?_
  refine wi_ald hx hb hK hP 9 0 rfl rfl (by omega) (by omega) d_Cl_copyAt_46 ?_
  refine wi_ast hx hb hK hP hD hS 4 0 rfl rfl (by omega) (by omega) d_Cl_copyAt_47 (fun H locs hP hD hS => ?_)
  have hP : va_P D kcl [(h, .inr (0, [.ref a1, .ref a2, .ref a3, .ref a4, .int (nI n)])), (a1, .inl (cI, 10, .inl (wA (va_up f1 j (g1 k))))), (a2, .inl (cI, 10, .inl (wA (va_up f2 j (g2 k))))), (a3, .inl (cI, 10, .inl (wA (va_up f3 j (g3 k))))), (a4, .inl (cI, 10, .inl (wA (va_up f4 j (g4 k))))), (o, .inr (0, [.ref b1, .ref b2, .ref b3, .ref b4, .int (nI q)])), (b1, .inl (cI, 10, .inl (wA g1))), (b2, .inl (cI, 10, .inl (wA g2))), (b3, .inl (cI, 10, .inl (wA g3))), (b4, .inl (cI, 10, .inl (wA g4)))] H := hP
  have hD : va_D A [(h, .inr (0, [.ref a1, .ref a2, .ref a3, .ref a4, .int (nI n)])), (a1, .inl (cI, 10, .inl (wA (va_up f1 j (g1 k))))), (a2, .inl (cI, 10, .inl (wA (va_up f2 j (g2 k))))), (a3, .inl (cI, 10, .inl (wA (va_up f3 j (g3 k))))), (a4, .inl (cI, 10, .inl (wA (va_up f4 j (g4 k))))), (o, .inr (0, [.ref b1, .ref b2, .ref b3, .ref b4, .int (nI q)])), (b1, .inl (cI, 10, .inl (wA g1))), (b2, .inl (cI, 10, .inl (wA g2))), (b3, .inl (cI, 10, .inl (wA g3))), (b4, .inl (cI, 10, .inl (wA g4)))] := hD
  exact k_retv hQ hx hb hr hlk hAe hK hP hD hS (Nat.le_of_ble_eq_true rfl) (Nat.le_of_ble_eq_true rfl) (Nat.le_of_ble_eq_true rfl) rfl d_Cl_copyAt_48
set_option maxHeartbeats 4000000 in
set_option maxRecDepth 100000 in
theorem c_Cl_copyAt2 (l : Launch) (Hs : Heap) (D : va_G) (cI cZ cL : ClassId) (h : Nat) (a1 : Nat) (a2 : Nat) (a3 : Nat) (a4 : Nat) (n : Nat) (f1 : Nat → Nat) (f2 : Nat → Nat) (f3 : Nat → Nat) (f4 : Nat → Nat) (j : Nat) (k : Nat) (hj : j < 10) (hk : k < 10) : kV l Hs D kcl (ty3 cI cZ cL) y_Cl_copyAt (mws y_Cl_copyAt b_Cl_copyAt 4 (Option.none : Option Jvm.ClassFile.FieldType)) ({ frames := 0, cells := 0, slots := 0, locals := 0 } : Room) [.ref h, .int (nI j), .ref h, .int (nI k)] [(h, .inr (0, [.ref a1, .ref a2, .ref a3, .ref a4, .int (nI n)])), (a1, .inl (cI, 10, .inl (wA f1))), (a2, .inl (cI, 10, .inl (wA f2))), (a3, .inl (cI, 10, .inl (wA f3))), (a4, .inl (cI, 10, .inl (wA f4)))] (fun w => w = [(h, .inr (0, [.ref a1, .ref a2, .ref a3, .ref a4, .int (nI n)])), (a1, .inl (cI, 10, .inl (wA (va_up f1 j (f1 k))))), (a2, .inl (cI, 10, .inl (wA (va_up f2 j (f2 k))))), (a3, .inl (cI, 10, .inl (wA (va_up f3 j (f3 k))))), (a4, .inl (cI, 10, .inl (wA (va_up f4 j (f4 k)))))]) := by
  intro sz
  refine k_of (cc := b_Cl_copyAt) (maxL := 4) (ret := (Option.none : Option Jvm.ClassFile.FieldType)) (by decide) rfl (Nat.le_of_ble_eq_true rfl) ?_
  intro p e s m args below meth c ls H locs A Q hQ hx hb hml hr hts hown hlk hnm hsz hAe hP hK hD hS hA hE hAH hl
  have ht : ∀ w ∈ mw, w.before args s = true := fun w h => hts w (List.mem_cons_of_mem _ h)
  have hl : lv_has ls 4 [(0, .ref h), (1, .int (nI j)), (2, .ref h), (3, .int (nI k))] := hl
  refine lv_aload_n hx hb d_Cl_copyAt_0 rfl (lv_at hl 0 rfl) ?_
  refine va_get (D := D) (ci := 0) (v := .ref a1) (C := R_Cl) (T := T_Cl) (N := 5) hx hb ht u_Cl hown hK hP 0 rfl rfl 0 (by decide) (ht _ wd_52) (fun _ h9 => h9) rfl d_Cl_copyAt_1 ?_
  refine lv_iload_n hx hb d_Cl_copyAt_4 rfl (lv_at hl 1 rfl) ?_
  refine lv_aload_n hx hb d_Cl_copyAt_5 rfl (lv_at hl 2 rfl) ?_
  refine va_get (D := D) (ci := 0) (v := .ref a1) (C := R_Cl) (T := T_Cl) (N := 5) hx hb ht u_Cl hown hK hP 0 rfl rfl 0 (by decide) (ht _ wd_52) (fun _ h9 => h9) rfl d_Cl_copyAt_6 ?_
  refine lv_iload_n hx hb d_Cl_copyAt_9 rfl (lv_at hl 3 rfl) ?_
  refine wi_ald hx hb hK hP 1 0 rfl rfl (by omega) (by omega) d_Cl_copyAt_10 ?_
  refine wi_ast hx hb hK hP hD hS 1 0 rfl rfl (by omega) (by omega) d_Cl_copyAt_11 (fun H locs hP hD hS => ?_)
  have hP : va_P D kcl [(h, .inr (0, [.ref a1, .ref a2, .ref a3, .ref a4, .int (nI n)])), (a1, .inl (cI, 10, .inl (wA (va_up f1 j (f1 k))))), (a2, .inl (cI, 10, .inl (wA f2))), (a3, .inl (cI, 10, .inl (wA f3))), (a4, .inl (cI, 10, .inl (wA f4)))] H := hP
  have hD : va_D A [(h, .inr (0, [.ref a1, .ref a2, .ref a3, .ref a4, .int (nI n)])), (a1, .inl (cI, 10, .inl (wA (va_up f1 j (f1 k))))), (a2, .inl (cI, 10, .inl (wA f2))), (a3, .inl (cI, 10, .inl (wA f3))), (a4, .inl (cI, 10, .inl (wA f4)))] := hD
  refine lv_aload_n hx hb d_Cl_copyAt_12 rfl (lv_at hl 0 rfl) ?_
  refine va_get (D := D) (ci := 0) (v := .ref a2) (C := R_Cl) (T := T_Cl) (N := 5) hx hb ht u_Cl hown hK hP 0 rfl rfl 1 (by decide) (ht _ wd_53) (fun _ h9 => h9) rfl d_Cl_copyAt_13 ?_
  refine lv_iload_n hx hb d_Cl_copyAt_16 rfl (lv_at hl 1 rfl) ?_
  refine lv_aload_n hx hb d_Cl_copyAt_17 rfl (lv_at hl 2 rfl) ?_
  refine va_get (D := D) (ci := 0) (v := .ref a2) (C := R_Cl) (T := T_Cl) (N := 5) hx hb ht u_Cl hown hK hP 0 rfl rfl 1 (by decide) (ht _ wd_53) (fun _ h9 => h9) rfl d_Cl_copyAt_18 ?_
  refine lv_iload_n hx hb d_Cl_copyAt_21 rfl (lv_at hl 3 rfl) ?_
  refine wi_ald hx hb hK hP 2 0 rfl rfl (by omega) (by omega) d_Cl_copyAt_22 ?_
  refine wi_ast hx hb hK hP hD hS 2 0 rfl rfl (by omega) (by omega) d_Cl_copyAt_23 (fun H locs hP hD hS => ?_)
  have hP : va_P D kcl [(h, .inr (0, [.ref a1, .ref a2, .ref a3, .ref a4, .int (nI n)])), (a1, .inl (cI, 10, .inl (wA (va_up f1 j (f1 k))))), (a2, .inl (cI, 10, .inl (wA (va_up f2 j (f2 k))))), (a3, .inl (cI, 10, .inl (wA f3))), (a4, .inl (cI, 10, .inl (wA f4)))] H := hP
  have hD : va_D A [(h, .inr (0, [.ref a1, .ref a2, .ref a3, .ref a4, .int (nI n)])), (a1, .inl (cI, 10, .inl (wA (va_up f1 j (f1 k))))), (a2, .inl (cI, 10, .inl (wA (va_up f2 j (f2 k))))), (a3, .inl (cI, 10, .inl (wA f3))), (a4, .inl (cI, 10, .inl (wA f4)))] := hD
  refine lv_aload_n hx hb d_Cl_copyAt_24 rfl (lv_at hl 0 rfl) ?_
  refine va_get (D := D) (ci := 0) (v := .ref a3) (C := R_Cl) (T := T_Cl) (N := 5) hx hb ht u_Cl hown hK hP 0 rfl rfl 2 (by decide) (ht _ wd_54) (fun _ h9 => h9) rfl d_Cl_copyAt_25 ?_
  refine lv_iload_n hx hb d_Cl_copyAt_28 rfl (lv_at hl 1 rfl) ?_
  refine lv_aload_n hx hb d_Cl_copyAt_29 rfl (lv_at hl 2 rfl) ?_
  refine va_get (D := D) (ci := 0) (v := .ref a3) (C := R_Cl) (T := T_Cl) (N := 5) hx hb ht u_Cl hown hK hP 0 rfl rfl 2 (by decide) (ht _ wd_54) (fun _ h9 => h9) rfl d_Cl_copyAt_30 ?_
  refine lv_iload_n hx hb d_Cl_copyAt_33 rfl (lv_at hl 3 rfl) ?_
  refine wi_ald hx hb hK hP 3 0 rfl rfl (by omega) (by omega) d_Cl_copyAt_34 ?_
  refine wi_ast hx hb hK hP hD hS 3 0 rfl rfl (by omega) (by omega) d_Cl_copyAt_35 (fun H locs hP hD hS => ?_)
  have hP : va_P D kcl [(h, .inr (0, [.ref a1, .ref a2, .ref a3, .ref a4, .int (nI n)])), (a1, .inl (cI, 10, .inl (wA (va_up f1 j (f1 k))))), (a2, .inl (cI, 10, .inl (wA (va_up f2 j (f2 k))))), (a3, .inl (cI, 10, .inl (wA (va_up f3 j (f3 k))))), (a4, .inl (cI, 10, .inl (wA f4)))] H := hP
  have hD : va_D A [(h, .inr (0, [.ref a1, .ref a2, .ref a3, .ref a4, .int (nI n)])), (a1, .inl (cI, 10, .inl (wA (va_up f1 j (f1 k))))), (a2, .inl (cI, 10, .inl (wA (va_up f2 j (f2 k))))), (a3, .inl (cI, 10, .inl (wA (va_up f3 j (f3 k))))), (a4, .inl (cI, 10, .inl (wA f4)))] := hD
  refine lv_aload_n hx hb d_Cl_copyAt_36 rfl (lv_at hl 0 rfl) ?_
  refine va_get (D := D) (ci := 0) (v := .ref a4) (C := R_Cl) (T := T_Cl) (N := 5) hx hb ht u_Cl hown hK hP 0 rfl rfl 3 (by decide) (ht _ wd_55) (fun _ h9 => h9) rfl d_Cl_copyAt_37 ?_
  refine lv_iload_n hx hb d_Cl_copyAt_40 rfl (lv_at hl 1 rfl) ?_
  refine lv_aload_n hx hb d_Cl_copyAt_41 rfl (lv_at hl 2 rfl) ?_
  refine va_get (D := D) (ci := 0) (v := .ref a4) (C := R_Cl) (T := T_Cl) (N := 5) hx hb ht u_Cl hown hK hP 0 rfl rfl 3 (by decide) (ht _ wd_55) (fun _ h9 => h9) rfl d_Cl_copyAt_42 ?_
  refine lv_iload_n hx hb d_Cl_copyAt_45 rfl (lv_at hl 3 rfl) ?_
  refine wi_ald hx hb hK hP 4 0 rfl rfl (by omega) (by omega) d_Cl_copyAt_46 ?_
  refine wi_ast hx hb hK hP hD hS 4 0 rfl rfl (by omega) (by omega) d_Cl_copyAt_47 (fun H locs hP hD hS => ?_)
  have hP : va_P D kcl [(h, .inr (0, [.ref a1, .ref a2, .ref a3, .ref a4, .int (nI n)])), (a1, .inl (cI, 10, .inl (wA (va_up f1 j (f1 k))))), (a2, .inl (cI, 10, .inl (wA (va_up f2 j (f2 k))))), (a3, .inl (cI, 10, .inl (wA (va_up f3 j (f3 k))))), (a4, .inl (cI, 10, .inl (wA (va_up f4 j (f4 k)))))] H := hP
  have hD : va_D A [(h, .inr (0, [.ref a1, .ref a2, .ref a3, .ref a4, .int (nI n)])), (a1, .inl (cI, 10, .inl (wA (va_up f1 j (f1 k))))), (a2, .inl (cI, 10, .inl (wA (va_up f2 j (f2 k))))), (a3, .inl (cI, 10, .inl (wA (va_up f3 j (f3 k))))), (a4, .inl (cI, 10, .inl (wA (va_up f4 j (f4 k)))))] := hD
  exact k_retv hQ hx hb hr hlk hAe hK hP hD hS (Nat.le_of_ble_eq_true rfl) (Nat.le_of_ble_eq_true rfl) (Nat.le_of_ble_eq_true rfl) rfl d_Cl_copyAt_48
set_option maxHeartbeats 4000000 in
set_option maxRecDepth 100000 in
theorem c_Cl_init (l : Launch) (Hs : Heap) (D : va_G) (cI cZ cL : ClassId) (h : Nat) : kV l Hs D kcl (ty3 cI cZ cL) y_Cl_init (mws y_Cl_init b_Cl_init 1 (Option.none : Option Jvm.ClassFile.FieldType)) ({ frames := 1, cells := 4, slots := 40, locals := 12 } : Room) [.ref h] [(h, .inr (0, [.null, .null, .null, .null, .int (nI 0)]))] (fun w => ∃ (a1 : Nat), ∃ (a2 : Nat), ∃ (a3 : Nat), ∃ (a4 : Nat), w = [(h, .inr (0, [.ref a1, .ref a2, .ref a3, .ref a4, .int (nI 0)])), (a1, .inl (cI, 10, .inl (wA (fun _ => 0)))), (a2, .inl (cI, 10, .inl (wA (fun _ => 0)))), (a3, .inl (cI, 10, .inl (wA (fun _ => 0)))), (a4, .inl (cI, 10, .inl (wA (fun _ => 0))))]) := by
  intro sz
  refine k_of (cc := b_Cl_init) (maxL := 1) (ret := (Option.none : Option Jvm.ClassFile.FieldType)) (by decide) rfl (Nat.le_of_ble_eq_true rfl) ?_
  intro p e s m args below meth c ls H locs A Q hQ hx hb hml hr hts hown hlk hnm hsz hAe hP hK hD hS hA hE hAH hl
  have ht : ∀ w ∈ mw, w.before args s = true := fun w h => hts w (List.mem_cons_of_mem _ h)
  have hl : lv_has ls 1 [(0, .ref h)] := hl
  refine lv_aload_n hx hb d_Cl_init_0 rfl (lv_at hl 0 rfl) ?_
  refine W.objInit hx hb hown (ht _ wd_51) (ht _ wd_33) (ht _ wd_34) rfl (by rw [hml]; exact hl.1) rfl d_Cl_init_1 (Nat.le_of_ble_eq_true rfl) (Nat.le_of_ble_eq_true rfl) ?_
  refine W.eq (g2 := F0 m 4 ls []) rfl ?_
  refine lv_aload_n hx hb d_Cl_init_4 rfl (lv_at hl 0 rfl) ?_
  refine lv_bipush (v := nI 10) hx hb d_Cl_init_5 (by decide) ?_
  refine wi_newa (atype := .int) (a0 := (10, .inl (wA (fun _ => 0)))) (N' := 10) hx hb (ht _ wd_45) rfl (by decide) hK hP hD hS hA 0 rfl (fun _ => rfl) (by decide) rfl (by decide) (Nat.le_of_ble_eq_true rfl) (Nat.le_of_ble_eq_true rfl) d_Cl_init_7 (fun q7 H hP hD hS => ?_)
  have hP : va_P D kcl [(h, .inr (0, [.null, .null, .null, .null, .int (nI 0)])), (q7, .inl (cI, 10, .inl (wA (fun _ => 0))))] H := hP
  have hD : va_D A [(h, .inr (0, [.null, .null, .null, .null, .int (nI 0)])), (q7, .inl (cI, 10, .inl (wA (fun _ => 0))))] := hD
  refine W.widen (k := 1) (n := 10) (by decide) (by decide) ?_
  refine va_putF (D := D) (ci := 0) (v := .ref q7) (ty := (.array .int)) (C := R_Cl) (T := T_Cl) (N := 5) hx hb ht u_Cl t_Cl t_Cl_ok n_Cl hown hK hP hD hS 0 rfl rfl 0 (by decide) (ht _ wd_52) (fun _ h9 => h9) rfl hnm rfl (by decide +kernel) rfl rfl (Nat.le_of_ble_eq_true rfl) d_Cl_init_9 (fun H locs hP hD hS => ?_)
  have hP : va_P D kcl [(h, .inr (0, [.ref q7, .null, .null, .null, .int (nI 0)])), (q7, .inl (cI, 10, .inl (wA (fun _ => 0))))] H := hP
  have hD : va_D A [(h, .inr (0, [.ref q7, .null, .null, .null, .int (nI 0)])), (q7, .inl (cI, 10, .inl (wA (fun _ => 0))))] := hD
  refine lv_aload_n hx hb d_Cl_init_12 rfl (lv_at hl 0 rfl) ?_
  refine lv_bipush (v := nI 10) hx hb d_Cl_init_13 (by decide) ?_
  refine wi_newa (atype := .int) (a0 := (10, .inl (wA (fun _ => 0)))) (N' := 10) hx hb (ht _ wd_45) rfl (by decide) hK hP hD hS hA 0 rfl (fun _ => rfl) (by decide) rfl (by decide) (Nat.le_of_ble_eq_true rfl) (Nat.le_of_ble_eq_true rfl) d_Cl_init_15 (fun q15 H hP hD hS => ?_)
  have hP : va_P D kcl [(h, .inr (0, [.ref q7, .null, .null, .null, .int (nI 0)])), (q7, .inl (cI, 10, .inl (wA (fun _ => 0)))), (q15, .inl (cI, 10, .inl (wA (fun _ => 0))))] H := hP
  have hD : va_D A [(h, .inr (0, [.ref q7, .null, .null, .null, .int (nI 0)])), (q7, .inl (cI, 10, .inl (wA (fun _ => 0)))), (q15, .inl (cI, 10, .inl (wA (fun _ => 0))))] := hD
  refine W.widen (k := 2) (n := 20) (by decide) (by decide) ?_
  refine va_putF (D := D) (ci := 0) (v := .ref q15) (ty := (.array .int)) (C := R_Cl) (T := T_Cl) (N := 5) hx hb ht u_Cl t_Cl t_Cl_ok n_Cl hown hK hP hD hS 0 rfl rfl 1 (by decide) (ht _ wd_53) (fun _ h9 => h9) rfl hnm rfl (by decide +kernel) rfl rfl (Nat.le_of_ble_eq_true rfl) d_Cl_init_17 (fun H locs hP hD hS => ?_)
  have hP : va_P D kcl [(h, .inr (0, [.ref q7, .ref q15, .null, .null, .int (nI 0)])), (q7, .inl (cI, 10, .inl (wA (fun _ => 0)))), (q15, .inl (cI, 10, .inl (wA (fun _ => 0))))] H := hP
  have hD : va_D A [(h, .inr (0, [.ref q7, .ref q15, .null, .null, .int (nI 0)])), (q7, .inl (cI, 10, .inl (wA (fun _ => 0)))), (q15, .inl (cI, 10, .inl (wA (fun _ => 0))))] := hD
  refine lv_aload_n hx hb d_Cl_init_20 rfl (lv_at hl 0 rfl) ?_
  refine lv_bipush (v := nI 10) hx hb d_Cl_init_21 (by decide) ?_
  refine wi_newa (atype := .int) (a0 := (10, .inl (wA (fun _ => 0)))) (N' := 10) hx hb (ht _ wd_45) rfl (by decide) hK hP hD hS hA 0 rfl (fun _ => rfl) (by decide) rfl (by decide) (Nat.le_of_ble_eq_true rfl) (Nat.le_of_ble_eq_true rfl) d_Cl_init_23 (fun q23 H hP hD hS => ?_)
  have hP : va_P D kcl [(h, .inr (0, [.ref q7, .ref q15, .null, .null, .int (nI 0)])), (q7, .inl (cI, 10, .inl (wA (fun _ => 0)))), (q15, .inl (cI, 10, .inl (wA (fun _ => 0)))), (q23, .inl (cI, 10, .inl (wA (fun _ => 0))))] H := hP
  have hD : va_D A [(h, .inr (0, [.ref q7, .ref q15, .null, .null, .int (nI 0)])), (q7, .inl (cI, 10, .inl (wA (fun _ => 0)))), (q15, .inl (cI, 10, .inl (wA (fun _ => 0)))), (q23, .inl (cI, 10, .inl (wA (fun _ => 0))))] := hD
  refine W.widen (k := 3) (n := 30) (by decide) (by decide) ?_
  refine va_putF (D := D) (ci := 0) (v := .ref q23) (ty := (.array .int)) (C := R_Cl) (T := T_Cl) (N := 5) hx hb ht u_Cl t_Cl t_Cl_ok n_Cl hown hK hP hD hS 0 rfl rfl 2 (by decide) (ht _ wd_54) (fun _ h9 => h9) rfl hnm rfl (by decide +kernel) rfl rfl (Nat.le_of_ble_eq_true rfl) d_Cl_init_25 (fun H locs hP hD hS => ?_)
  have hP : va_P D kcl [(h, .inr (0, [.ref q7, .ref q15, .ref q23, .null, .int (nI 0)])), (q7, .inl (cI, 10, .inl (wA (fun _ => 0)))), (q15, .inl (cI, 10, .inl (wA (fun _ => 0)))), (q23, .inl (cI, 10, .inl (wA (fun _ => 0))))] H := hP
  have hD : va_D A [(h, .inr (0, [.ref q7, .ref q15, .ref q23, .null, .int (nI 0)])), (q7, .inl (cI, 10, .inl (wA (fun _ => 0)))), (q15, .inl (cI, 10, .inl (wA (fun _ => 0)))), (q23, .inl (cI, 10, .inl (wA (fun _ => 0))))] := hD
  refine lv_aload_n hx hb d_Cl_init_28 rfl (lv_at hl 0 rfl) ?_
  refine lv_bipush (v := nI 10) hx hb d_Cl_init_29 (by decide) ?_
  refine wi_newa (atype := .int) (a0 := (10, .inl (wA (fun _ => 0)))) (N' := 10) hx hb (ht _ wd_45) rfl (by decide) hK hP hD hS hA 0 rfl (fun _ => rfl) (by decide) rfl (by decide) (Nat.le_of_ble_eq_true rfl) (Nat.le_of_ble_eq_true rfl) d_Cl_init_31 (fun q31 H hP hD hS => ?_)
  have hP : va_P D kcl [(h, .inr (0, [.ref q7, .ref q15, .ref q23, .null, .int (nI 0)])), (q7, .inl (cI, 10, .inl (wA (fun _ => 0)))), (q15, .inl (cI, 10, .inl (wA (fun _ => 0)))), (q23, .inl (cI, 10, .inl (wA (fun _ => 0)))), (q31, .inl (cI, 10, .inl (wA (fun _ => 0))))] H := hP
  have hD : va_D A [(h, .inr (0, [.ref q7, .ref q15, .ref q23, .null, .int (nI 0)])), (q7, .inl (cI, 10, .inl (wA (fun _ => 0)))), (q15, .inl (cI, 10, .inl (wA (fun _ => 0)))), (q23, .inl (cI, 10, .inl (wA (fun _ => 0)))), (q31, .inl (cI, 10, .inl (wA (fun _ => 0))))] := hD
  refine W.widen (k := 4) (n := 40) (by decide) (by decide) ?_
  refine va_putF (D := D) (ci := 0) (v := .ref q31) (ty := (.array .int)) (C := R_Cl) (T := T_Cl) (N := 5) hx hb ht u_Cl t_Cl t_Cl_ok n_Cl hown hK hP hD hS 0 rfl rfl 3 (by decide) (ht _ wd_55) (fun _ h9 => h9) rfl hnm rfl (by decide +kernel) rfl rfl (Nat.le_of_ble_eq_true rfl) d_Cl_init_33 (fun H locs hP hD hS => ?_)
  have hP : va_P D kcl [(h, .inr (0, [.ref q7, .ref q15, .ref q23, .ref q31, .int (nI 0)])), (q7, .inl (cI, 10, .inl (wA (fun _ => 0)))), (q15, .inl (cI, 10, .inl (wA (fun _ => 0)))), (q23, .inl (cI, 10, .inl (wA (fun _ => 0)))), (q31, .inl (cI, 10, .inl (wA (fun _ => 0))))] H := hP
  have hD : va_D A [(h, .inr (0, [.ref q7, .ref q15, .ref q23, .ref q31, .int (nI 0)])), (q7, .inl (cI, 10, .inl (wA (fun _ => 0)))), (q15, .inl (cI, 10, .inl (wA (fun _ => 0)))), (q23, .inl (cI, 10, .inl (wA (fun _ => 0)))), (q31, .inl (cI, 10, .inl (wA (fun _ => 0))))] := hD
  refine lv_aload_n hx hb d_Cl_init_36 rfl (lv_at hl 0 rfl) ?_
  refine lv_iconst (v := nI 0) hx hb d_Cl_init_37 (by decide) ?_
  refine va_put (D := D) (ci := 0) (v := .int (nI 0)) (ty := .int) (C := R_Cl) (T := T_Cl) (N := 5) hx hb ht u_Cl t_Cl t_Cl_ok n_Cl hown hK hP hD hS 0 rfl rfl 4 (by decide) (ht _ wd_56) (fun _ h9 => h9) rfl (by decide +kernel) rfl rfl (Nat.le_of_ble_eq_true rfl) d_Cl_init_38 (fun H locs hP hD hS => ?_)
  have hP : va_P D kcl [(h, .inr (0, [.ref q7, .ref q15, .ref q23, .ref q31, .int (nI 0)])), (q7, .inl (cI, 10, .inl (wA (fun _ => 0)))), (q15, .inl (cI, 10, .inl (wA (fun _ => 0)))), (q23, .inl (cI, 10, .inl (wA (fun _ => 0)))), (q31, .inl (cI, 10, .inl (wA (fun _ => 0))))] H := hP
  have hD : va_D A [(h, .inr (0, [.ref q7, .ref q15, .ref q23, .ref q31, .int (nI 0)])), (q7, .inl (cI, 10, .inl (wA (fun _ => 0)))), (q15, .inl (cI, 10, .inl (wA (fun _ => 0)))), (q23, .inl (cI, 10, .inl (wA (fun _ => 0)))), (q31, .inl (cI, 10, .inl (wA (fun _ => 0))))] := hD
  exact k_retv hQ hx hb hr hlk hAe hK hP hD hS (Nat.le_of_ble_eq_true rfl) (Nat.le_of_ble_eq_true rfl) (Nat.le_of_ble_eq_true rfl) ⟨q7, q15, q23, q31, rfl⟩ d_Cl_init_41
end
section
/-! Clients: its loops. -/
/-- where x stands among the first n, or -1 -/
def pw_fnd (f : Nat → Nat) (n : Nat) (x r : Int32) : Prop := (∃ k, k < n ∧ nI (f k) = x ∧ r = nI k ∧ ∀ j, j < k → nI (f j) ≠ x) ∨ (r = -1 ∧ ∀ k, k < n → nI (f k) ≠ x)
/-- the least, at most 40 -/
def pw_mn (f : Nat → Nat) : Nat → Nat
  | 0 => 40
  | k + 1 => min (pw_mn f k) (f k)
theorem pw_mn_le (f : Nat → Nat) : ∀ k, pw_mn f k ≤ 40 := by
  intro k
  induction k with
  | zero => exact Nat.le_refl 40
  | succ k ih => exact Nat.le_trans (Nat.min_le_left _ _) ih
/-- v comes in at p, the others move up -/
def pw_in (f u : Nat → Nat) (n p v : Nat) : Prop := (∀ j, j < p → u j = f j) ∧ u p = v ∧ ∀ j, p ≤ j → j < n → u (j + 1) = f j
theorem up_in {u f : Nat → Nat} {k n : Nat} (h : (∀ t, t < k → u t = f t) ∧ ∀ t, k ≤ t → t < n → u (t + 1) = f t) (v : Nat) : pw_in f (va_up u k v) n k v := by
  refine ⟨fun t ht => ?_, va_up_self _ _ _, fun t h1 h2 => ?_⟩
  · rw [va_up_ne _ _ (by omega)]
    exact h.1 t ht
  · rw [va_up_ne _ _ (by omega)]
    exact h.2 t h1 h2
/-- the one at p goes -/
def pw_ou (f u : Nat → Nat) (n p : Nat) : Prop := ∀ j, j + 1 < n → u j = if j < p then f j else f (j + 1)
set_option maxHeartbeats 4000000 in
set_option maxRecDepth 100000 in
theorem c_Cl_find (l : Launch) (Hs : Heap) (D : va_G) (cI cZ cL : ClassId) (h : Nat) (a1 : Nat) (a2 : Nat) (a3 : Nat) (a4 : Nat) (n : Nat) (f : Nat → Nat) (x : Int32) (hn : n ≤ 10) : kI l Hs D kcl (ty3 cI cZ cL) y_Cl_find (mws y_Cl_find b_Cl_find 3 (Option.some Jvm.ClassFile.FieldType.int)) ({ frames := 0, cells := 0, slots := 0, locals := 0 } : Room) [.ref h, .int x] [(h, .inr (0, [.ref a1, .ref a2, .ref a3, .ref a4, .int (nI n)])), (a1, .inl (cI, 10, .inl (wA f)))] (fun r w => ∃ (r0 : Int32), (pw_fnd f n x r0) ∧ r = r0 ∧ w = [(h, .inr (0, [.ref a1, .ref a2, .ref a3, .ref a4, .int (nI n)])), (a1, .inl (cI, 10, .inl (wA f)))]) := by
  intro sz
  refine k_of (cc := b_Cl_find) (maxL := 3) (ret := (Option.some Jvm.ClassFile.FieldType.int)) (by decide) rfl (Nat.le_of_ble_eq_true rfl) ?_
  intro p e s m args below meth c ls H locs A Q hQ hx hb hml hr hts hown hlk hnm hsz hAe hP hK hD hS hA hE hAH hl
  have ht : ∀ w ∈ mw, w.before args s = true := fun w h => hts w (List.mem_cons_of_mem _ h)
  have hl : lv_has ls 3 [(0, .ref h), (1, .int x)] := hl
  refine lv_iconst (v := nI 0) hx hb d_Cl_find_0 (by decide) ?_
  refine lv_istore_n (lv' := [(2, .int (nI 0)), (0, .ref h), (1, .int x)]) hx hb d_Cl_find_1 rfl hl (by decide) rfl (fun ls hl => ?_)
  have loop2 : ∀ (d : Nat) (k : Nat) (ls : Array Slot) (H : Heap) (locs : List Loc), n - k = d → (k ≤ n) → (∀ j, j < k → nI (f j) ≠ x) → lv_has ls 3 [(0, .ref h), (1, .int x), (2, .int (nI k))] → va_P D kcl [(h, .inr (0, [.ref a1, .ref a2, .ref a3, .ref a4, .int (nI n)])), (a1, .inl (cI, 10, .inl (wA f)))] H → va_D A [(h, .inr (0, [.ref a1, .ref a2, .ref a3, .ref a4, .int (nI n)])), (a1, .inl (cI, 10, .inl (wA f)))] → va_S A s.heap H locs → W p l e ({ frames := 0, cells := 0, slots := 0, locals := 0 } : Room) s m args below meth c H locs 0 0 Q (F0 m 2 ls []) := by
    intro d
    induction d using Nat.strongRecOn with
    | ind d ih2 =>
      intro k ls H locs hd2 hk hno hl hP hD hS
      refine lv_iload_n hx hb d_Cl_find_2 rfl (lv_at hl 2 rfl) ?_
      refine lv_aload_n hx hb d_Cl_find_3 rfl (lv_at hl 0 rfl) ?_
      refine va_get (D := D) (ci := 0) (v := .int (nI n)) (C := R_Cl) (T := T_Cl) (N := 5) hx hb ht u_Cl hown hK hP 0 rfl rfl 4 (by decide) (ht _ wd_56) (fun _ h9 => h9) rfl d_Cl_find_4 ?_
      refine wi_ge hx hb d_Cl_find_7 rfl (by omega) (by omega) (fun h7 => ?_) (fun h7 => ?_)
      · refine lv_iconst (v := -1) hx hb d_Cl_find_28 (by decide) ?_
        exact k_reti hQ hx hb hr hlk hAe hK hP hD hS (Nat.le_of_ble_eq_true rfl) (Nat.le_of_ble_eq_true rfl) (Nat.le_of_ble_eq_true rfl) ⟨-1, Or.inr ⟨rfl, fun j hj => hno j (by omega)⟩, rfl, rfl⟩ d_Cl_find_29
      · refine lv_aload_n hx hb d_Cl_find_10 rfl (lv_at hl 0 rfl) ?_
        refine va_get (D := D) (ci := 0) (v := .ref a1) (C := R_Cl) (T := T_Cl) (N := 5) hx hb ht u_Cl hown hK hP 0 rfl rfl 0 (by decide) (ht _ wd_52) (fun _ h9 => h9) rfl d_Cl_find_11 ?_
        refine lv_iload_n hx hb d_Cl_find_14 rfl (lv_at hl 2 rfl) ?_
        refine wi_ald hx hb hK hP 1 0 rfl rfl (by omega) (by omega) d_Cl_find_15 ?_
        refine lv_iload_n hx hb d_Cl_find_16 rfl (lv_at hl 1 rfl) ?_
        refine lv_icmp_ne hx hb d_Cl_find_17 rfl (fun h17 => ?_) (fun h17 => ?_)
        · refine wi_inc (k := 2) (lv' := [(2, .int (nI (k + 1))), (0, .ref h), (1, .int x)]) hx hb d_Cl_find_22 hl rfl (by decide) rfl (fun ls hl => ?_)
          refine lv_goto hx hb d_Cl_find_25 rfl ?_
          exact ih2 (n - (k + 1)) (by omega) (k + 1) ls H locs rfl (by omega) (lt_s hno h17) (lv_sub hl [1, 2, 0] rfl) hP hD hS
        · refine lv_iload_n hx hb d_Cl_find_20 rfl (lv_at hl 2 rfl) ?_
          exact k_reti hQ hx hb hr hlk hAe hK hP hD hS (Nat.le_of_ble_eq_true rfl) (Nat.le_of_ble_eq_true rfl) (Nat.le_of_ble_eq_true rfl) ⟨nI k, Or.inl ⟨k, h7, h17, rfl, hno⟩, rfl, rfl⟩ d_Cl_find_21
  exact loop2 _ (0) ls H locs rfl (Nat.zero_le _) lt_0 (lv_sub hl [1, 2, 0] rfl) hP hD hS
set_option maxHeartbeats 4000000 in
set_option maxRecDepth 100000 in
theorem c_Cl_leastSpan (l : Launch) (Hs : Heap) (D : va_G) (cI cZ cL : ClassId) (h : Nat) (a1 : Nat) (a2 : Nat) (a3 : Nat) (a4 : Nat) (n : Nat) (f : Nat → Nat) (hn : n ≤ 10) (hf : ∀ k, k < n → f k ≤ 40) : kI l Hs D kcl (ty3 cI cZ cL) y_Cl_leastSpan (mws y_Cl_leastSpan b_Cl_leastSpan 3 (Option.some Jvm.ClassFile.FieldType.int)) ({ frames := 1, cells := 0, slots := 0, locals := 13 } : Room) [.ref h] [(h, .inr (0, [.ref a1, .ref a2, .ref a3, .ref a4, .int (nI n)])), (a2, .inl (cI, 10, .inl (wA f)))] (fun r w => r = nI (pw_mn f n) ∧ w = [(h, .inr (0, [.ref a1, .ref a2, .ref a3, .ref a4, .int (nI n)])), (a2, .inl (cI, 10, .inl (wA f)))]) := by
  intro sz
  refine k_of (cc := b_Cl_leastSpan) (maxL := 3) (ret := (Option.some Jvm.ClassFile.FieldType.int)) (by decide) rfl (Nat.le_of_ble_eq_true rfl) ?_
  intro p e s m args below meth c ls H locs A Q hQ hx hb hml hr hts hown hlk hnm hsz hAe hP hK hD hS hA hE hAH hl
  have ht : ∀ w ∈ mw, w.before args s = true := fun w h => hts w (List.mem_cons_of_mem _ h)
  have hl : lv_has ls 3 [(0, .ref h)] := hl
  refine lv_bipush (v := nI 40) hx hb d_Cl_leastSpan_0 (by decide) ?_
  refine lv_istore_n (lv' := [(1, .int (nI 40)), (0, .ref h)]) hx hb d_Cl_leastSpan_2 rfl hl (by decide) rfl (fun ls hl => ?_)
  refine lv_iconst (v := nI 0) hx hb d_Cl_leastSpan_3 (by decide) ?_
  refine lv_istore_n (lv' := [(2, .int (nI 0)), (1, .int (nI 40)), (0, .ref h)]) hx hb d_Cl_leastSpan_4 rfl hl (by decide) rfl (fun ls hl => ?_)
  have loop5 : ∀ (d : Nat) (k : Nat) (ls : Array Slot) (H : Heap) (locs : List Loc), n - k = d → (k ≤ n) → lv_has ls 3 [(0, .ref h), (1, .int (nI (pw_mn f k))), (2, .int (nI k))] → va_P D kcl [(h, .inr (0, [.ref a1, .ref a2, .ref a3, .ref a4, .int (nI n)])), (a2, .inl (cI, 10, .inl (wA f)))] H → va_D A [(h, .inr (0, [.ref a1, .ref a2, .ref a3, .ref a4, .int (nI n)])), (a2, .inl (cI, 10, .inl (wA f)))] → va_S A s.heap H locs → W p l e ({ frames := 1, cells := 0, slots := 0, locals := 13 } : Room) s m args below meth c H locs 0 0 Q (F0 m 5 ls []) := by
    intro d
    induction d using Nat.strongRecOn with
    | ind d ih5 =>
      intro k ls H locs hd5 hk hl hP hD hS
      have hm := pw_mn_le f k
      refine lv_iload_n hx hb d_Cl_leastSpan_5 rfl (lv_at hl 2 rfl) ?_
      refine lv_aload_n hx hb d_Cl_leastSpan_6 rfl (lv_at hl 0 rfl) ?_
      refine va_get (D := D) (ci := 0) (v := .int (nI n)) (C := R_Cl) (T := T_Cl) (N := 5) hx hb ht u_Cl hown hK hP 0 rfl rfl 4 (by decide) (ht _ wd_56) (fun _ h9 => h9) rfl d_Cl_leastSpan_7 ?_
      refine wi_ge hx hb d_Cl_leastSpan_10 rfl (by omega) (by omega) (fun h10 => ?_) (fun h10 => ?_)
      · obtain rfl : k = n := by omega
        refine lv_iload_n hx hb d_Cl_leastSpan_30 rfl (lv_at hl 1 rfl) ?_
        exact k_reti hQ hx hb hr hlk hAe hK hP hD hS (Nat.le_of_ble_eq_true rfl) (Nat.le_of_ble_eq_true rfl) (Nat.le_of_ble_eq_true rfl) ⟨rfl, rfl⟩ d_Cl_leastSpan_31
      · have hfk := hf k h10
        refine lv_iload_n hx hb d_Cl_leastSpan_13 rfl (lv_at hl 1 rfl) ?_
        refine lv_aload_n hx hb d_Cl_leastSpan_14 rfl (lv_at hl 0 rfl) ?_
        refine va_get (D := D) (ci := 0) (v := .ref a2) (C := R_Cl) (T := T_Cl) (N := 5) hx hb ht u_Cl hown hK hP 0 rfl rfl 1 (by decide) (ht _ wd_53) (fun _ h9 => h9) rfl d_Cl_leastSpan_15 ?_
        refine lv_iload_n hx hb d_Cl_leastSpan_18 rfl (lv_at hl 2 rfl) ?_
        refine wi_ald hx hb hK hP 1 0 rfl rfl (by omega) (by omega) d_Cl_leastSpan_19 ?_
        refine va_mmin hx hb (hml.trans hl.1.symm) hown (ht _ wd_729) (ht _ wd_507) (ht _ wd_12) (ht _ wd_508) (Nat.le_of_ble_eq_true rfl) (Nat.le_of_ble_eq_true rfl) (Nat.le_of_ble_eq_true rfl) (Nat.le_of_ble_eq_true rfl) d_Cl_leastSpan_20 ?_
        rw [wi_min (by omega) (by omega)]
        refine lv_istore_n (lv' := [(1, .int (nI (min (pw_mn f k) (f k)))), (0, .ref h), (2, .int (nI k))]) hx hb d_Cl_leastSpan_23 rfl hl (by decide) rfl (fun ls hl => ?_)
        refine wi_inc (k := 2) (lv' := [(2, .int (nI (k + 1))), (1, .int (nI (min (pw_mn f k) (f k)))), (0, .ref h)]) hx hb d_Cl_leastSpan_24 hl rfl (by decide) rfl (fun ls hl => ?_)
        refine lv_goto hx hb d_Cl_leastSpan_27 rfl ?_
        exact ih5 (n - (k + 1)) (by omega) (k + 1) ls H locs rfl (by omega) (lv_sub hl [2, 1, 0] rfl) hP hD hS
  exact loop5 _ (0) ls H locs rfl (Nat.zero_le _) (lv_sub hl [2, 1, 0] rfl) hP hD hS
set_option maxHeartbeats 4000000 in
set_option maxRecDepth 100000 in
theorem c_Cl_copyFrom (l : Launch) (Hs : Heap) (D : va_G) (cI cZ cL : ClassId) (h : Nat) (a1 : Nat) (a2 : Nat) (a3 : Nat) (a4 : Nat) (o : Nat) (b1 : Nat) (b2 : Nat) (b3 : Nat) (b4 : Nat) (n : Nat) (q : Nat) (f1 : Nat → Nat) (f2 : Nat → Nat) (f3 : Nat → Nat) (f4 : Nat → Nat) (g1 : Nat → Nat) (g2 : Nat → Nat) (g3 : Nat → Nat) (g4 : Nat → Nat) (hq : q ≤ 10) : kV l Hs D kcl (ty3 cI cZ cL) y_Cl_copyFrom (mws y_Cl_copyFrom b_Cl_copyFrom 3 (Option.none : Option Jvm.ClassFile.FieldType)) ({ frames := 1, cells := 0, slots := 0, locals := 23 } : Room) [.ref h, .ref o] [(h, .inr (0, [.ref a1, .ref a2, .ref a3, .ref a4, .int (nI n)])), (a1, .inl (cI, 10, .inl (wA f1))), (a2, .inl (cI, 10, .inl (wA f2))), (a3, .inl (cI, 10, .inl (wA f3))), (a4, .inl (cI, 10, .inl (wA f4))), (o, .inr (0, [.ref b1, .ref b2, .ref b3, .ref b4, .int (nI q)])), (b1, .inl (cI, 10, .inl (wA g1))), (b2, .inl (cI, 10, .inl (wA g2))), (b3, .inl (cI, 10, .inl (wA g3))), (b4, .inl (cI, 10, .inl (wA g4)))] (fun w => ∃ (u1 : Nat → Nat), ∃ (u2 : Nat → Nat), ∃ (u3 : Nat → Nat), ∃ (u4 : Nat → Nat), (∀ t, t < q → u1 t = g1 t) ∧ (∀ t, t < q → u2 t = g2 t) ∧ (∀ t, t < q → u3 t = g3 t) ∧ (∀ t, t < q → u4 t = g4 t) ∧ w = [(h, .inr (0, [.ref a1, .ref a2, .ref a3, .ref a4, .int (nI q)])), (a1, .inl (cI, 10, .inl (wA u1))), (a2, .inl (cI, 10, .inl (wA u2))), (a3, .inl (cI, 10, .inl (wA u3))), (a4, .inl (cI, 10, .inl (wA u4))), (o, .inr (0, [.ref b1, .ref b2, .ref b3, .ref b4, .int (nI q)])), (b1, .inl (cI, 10, .inl (wA g1))), (b2, .inl (cI, 10, .inl (wA g2))), (b3, .inl (cI, 10, .inl (wA g3))), (b4, .inl (cI, 10, .inl (wA g4)))]) := by
  intro sz
  refine k_of (cc := b_Cl_copyFrom) (maxL := 3) (ret := (Option.none : Option Jvm.ClassFile.FieldType)) (by decide) rfl (Nat.le_of_ble_eq_true rfl) ?_
  intro p e s m args below meth c ls H locs A Q hQ hx hb hml hr hts hown hlk hnm hsz hAe hP hK hD hS hA hE hAH hl
  have ht : ∀ w ∈ mw, w.before args s = true := fun w h => hts w (List.mem_cons_of_mem _ h)
  have hl : lv_has ls 3 [(0, .ref h), (1, .ref o)] := hl
  refine lv_aload_n hx hb d_Cl_copyFrom_0 rfl (lv_at hl 0 rfl) ?_
  refine lv_aload_n hx hb d_Cl_copyFrom_1 rfl (lv_at hl 1 rfl) ?_
  refine va_get (D := D) (ci := 0) (v := .int (nI q)) (C := R_Cl) (T := T_Cl) (N := 5) hx hb ht u_Cl hown hK hP 5 rfl rfl 4 (by decide) (ht _ wd_56) (fun _ h9 => h9) rfl d_Cl_copyFrom_2 ?_
  refine va_put (D := D) (ci := 0) (v := .int (nI q)) (ty := .int) (C := R_Cl) (T := T_Cl) (N := 5) hx hb ht u_Cl t_Cl t_Cl_ok n_Cl hown hK hP hD hS 0 rfl rfl 4 (by decide) (ht _ wd_56) (fun _ h9 => h9) rfl (by decide +kernel) rfl rfl (Nat.le_of_ble_eq_true rfl) d_Cl_copyFrom_5 (fun H locs hP hD hS => ?_)
  have hP : va_P D kcl [(h, .inr (0, [.ref a1, .ref a2, .ref a3, .ref a4, .int (nI q)])), (a1, .inl (cI, 10, .inl (wA f1))), (a2, .inl (cI, 10, .inl (wA f2))), (a3, .inl (cI, 10, .inl (wA f3))), (a4, .inl (cI, 10, .inl (wA f4))), (o, .inr (0, [.ref b1, .ref b2, .ref b3, .ref b4, .int (nI q)])), (b1, .inl (cI, 10, .inl (wA g1))), (b2, .inl (cI, 10, .inl (wA g2))), (b3, .inl (cI, 10, .inl (wA g3))), (b4, .inl (cI, 10, .inl (wA g4)))] H := hP
  have hD : va_D A [(h, .inr (0, [.ref a1, .ref a2, .ref a3, .ref a4, .int (nI q)])), (a1, .inl (cI, 10, .inl (wA f1))), (a2, .inl (cI, 10, .inl (wA f2))), (a3, .inl (cI, 10, .inl (wA f3))), (a4, .inl (cI, 10, .inl (wA f4))), (o, .inr (0, [.ref b1, .ref b2, .ref b3, .ref b4, .int (nI q)])), (b1, .inl (cI, 10, .inl (wA g1))), (b2, .inl (cI, 10, .inl (wA g2))), (b3, .inl (cI, 10, .inl (wA g3))), (b4, .inl (cI, 10, .inl (wA g4)))] := hD
  refine lv_iconst (v := nI 0) hx hb d_Cl_copyFrom_8 (by decide) ?_
  refine lv_istore_n (lv' := [(2, .int (nI 0)), (0, .ref h), (1, .ref o)]) hx hb d_Cl_copyFrom_9 rfl hl (by decide) rfl (fun ls hl => ?_)
  have loop10 : ∀ (d : Nat) (k : Nat) (u1 : Nat → Nat) (u2 : Nat → Nat) (u3 : Nat → Nat) (u4 : Nat → Nat) (ls : Array Slot) (H : Heap) (locs : List Loc), q - k = d → (k ≤ q) → (∀ t, t < k → u1 t = g1 t) → (∀ t, t < k → u2 t = g2 t) → (∀ t, t < k → u3 t = g3 t) → (∀ t, t < k → u4 t = g4 t) → lv_has ls 3 [(0, .ref h), (1, .ref o), (2, .int (nI k))] → va_P D kcl [(h, .inr (0, [.ref a1, .ref a2, .ref a3, .ref a4, .int (nI q)])), (a1, .inl (cI, 10, .inl (wA u1))), (a2, .inl (cI, 10, .inl (wA u2))), (a3, .inl (cI, 10, .inl (wA u3))), (a4, .inl (cI, 10, .inl (wA u4))), (o, .inr (0, [.ref b1, .ref b2, .ref b3, .ref b4, .int (nI q)])), (b1, .inl (cI, 10, .inl (wA g1))), (b2, .inl (cI, 10, .inl (wA g2))), (b3, .inl (cI, 10, .inl (wA g3))), (b4, .inl (cI, 10, .inl (wA g4)))] H → va_D A [(h, .inr (0, [.ref a1, .ref a2, .ref a3, .ref a4, .int (nI q)])), (a1, .inl (cI, 10, .inl (wA u1))), (a2, .inl (cI, 10, .inl (wA u2))), (a3, .inl (cI, 10, .inl (wA u3))), (a4, .inl (cI, 10, .inl (wA u4))), (o, .inr (0, [.ref b1, .ref b2, .ref b3, .ref b4, .int (nI q)])), (b1, .inl (cI, 10, .inl (wA g1))), (b2, .inl (cI, 10, .inl (wA g2))), (b3, .inl (cI, 10, .inl (wA g3))), (b4, .inl (cI, 10, .inl (wA g4)))] → va_S A s.heap H locs → W p l e ({ frames := 1, cells := 0, slots := 0, locals := 23 } : Room) s m args below meth c H locs 0 0 Q (F0 m 10 ls []) := by
    intro d
    induction d using Nat.strongRecOn with
    | ind d ih10 =>
      intro k u1 u2 u3 u4 ls H locs hd10 hk hu1 hu2 hu3 hu4 hl hP hD hS
      refine lv_iload_n hx hb d_Cl_copyFrom_10 rfl (lv_at hl 2 rfl) ?_
      refine lv_aload_n hx hb d_Cl_copyFrom_11 rfl (lv_at hl 0 rfl) ?_
      refine va_get (D := D) (ci := 0) (v := .int (nI q)) (C := R_Cl) (T := T_Cl) (N := 5) hx hb ht u_Cl hown hK hP 0 rfl rfl 4 (by decide) (ht _ wd_56) (fun _ h9 => h9) rfl d_Cl_copyFrom_12 ?_
      refine wi_ge hx hb d_Cl_copyFrom_15 rfl (by omega) (by omega) (fun h15 => ?_) (fun h15 => ?_)
      · exact k_retv hQ hx hb hr hlk hAe hK hP hD hS (Nat.le_of_ble_eq_true rfl) (Nat.le_of_ble_eq_true rfl) (Nat.le_of_ble_eq_true rfl) ⟨u1, u2, u3, u4, fun t ht => hu1 t (by omega), fun t ht => hu2 t (by omega), fun t ht => hu3 t (by omega), fun t ht => hu4 t (by omega), rfl⟩ d_Cl_copyFrom_31
      · refine lv_aload_n hx hb d_Cl_copyFrom_18 rfl (lv_at hl 0 rfl) ?_
        refine lv_iload_n hx hb d_Cl_copyFrom_19 rfl (lv_at hl 2 rfl) ?_
        refine lv_aload_n hx hb d_Cl_copyFrom_20 rfl (lv_at hl 1 rfl) ?_
        refine lv_iload_n hx hb d_Cl_copyFrom_21 rfl (lv_at hl 2 rfl) ?_
        refine ck_v (wc := [(h, .inr (0, [.ref a1, .ref a2, .ref a3, .ref a4, .int (nI q)])), (a1, .inl (cI, 10, .inl (wA u1))), (a2, .inl (cI, 10, .inl (wA u2))), (a3, .inl (cI, 10, .inl (wA u3))), (a4, .inl (cI, 10, .inl (wA u4))), (o, .inr (0, [.ref b1, .ref b2, .ref b3, .ref b4, .int (nI q)])), (b1, .inl (cI, 10, .inl (wA g1))), (b2, .inl (cI, 10, .inl (wA g2))), (b3, .inl (cI, 10, .inl (wA g3))), (b4, .inl (cI, 10, .inl (wA g4)))]) (va_runV (As := [.int (nI k), .ref o, .int (nI k)]) (rest := []) (C := R_Cl) ⟨hx, hb, hml, hown, ht⟩ (c_Cl_copyAt l Hs D cI cZ cL h a1 a2 a3 a4 o b1 b2 b3 b4 q q u1 u2 u3 u4 g1 g2 g3 g4 k k (by omega) (by omega) H.size) (gw_V 3 ht wd_137 wd_3 wd_134 wd_136 ws_1 (by decide +kernel) ⟨Nat.le_of_ble_eq_true rfl, Nat.le_of_ble_eq_true rfl⟩) (k_preV hE hAH hK hP hD hS [0, 1, 2, 3, 4, 5, 6, 7, 8, 9] rfl rfl 0 rfl rfl) rfl rfl hl.1 rfl (lv_room (Nat.le_of_ble_eq_true rfl)) d_Cl_copyFrom_22 ⟨Nat.le_of_ble_eq_true rfl, Nat.le_of_ble_eq_true rfl⟩) hP hD hS hA [0, 1, 2, 3, 4, 5, 6, 7, 8, 9] rfl rfl (fun w1 H locs hpost hP hD hS => ?_)
        obtain rfl := hpost
        have hP : va_P D kcl [(h, .inr (0, [.ref a1, .ref a2, .ref a3, .ref a4, .int (nI q)])), (a1, .inl (cI, 10, .inl (wA (va_up u1 k (g1 k))))), (a2, .inl (cI, 10, .inl (wA (va_up u2 k (g2 k))))), (a3, .inl (cI, 10, .inl (wA (va_up u3 k (g3 k))))), (a4, .inl (cI, 10, .inl (wA (va_up u4 k (g4 k))))), (o, .inr (0, [.ref b1, .ref b2, .ref b3, .ref b4, .int (nI q)])), (b1, .inl (cI, 10, .inl (wA g1))), (b2, .inl (cI, 10, .inl (wA g2))), (b3, .inl (cI, 10, .inl (wA g3))), (b4, .inl (cI, 10, .inl (wA g4)))] H := hP
        have hD : va_D A [(h, .inr (0, [.ref a1, .ref a2, .ref a3, .ref a4, .int (nI q)])), (a1, .inl (cI, 10, .inl (wA (va_up u1 k (g1 k))))), (a2, .inl (cI, 10, .inl (wA (va_up u2 k (g2 k))))), (a3, .inl (cI, 10, .inl (wA (va_up u3 k (g3 k))))), (a4, .inl (cI, 10, .inl (wA (va_up u4 k (g4 k))))), (o, .inr (0, [.ref b1, .ref b2, .ref b3, .ref b4, .int (nI q)])), (b1, .inl (cI, 10, .inl (wA g1))), (b2, .inl (cI, 10, .inl (wA g2))), (b3, .inl (cI, 10, .inl (wA g3))), (b4, .inl (cI, 10, .inl (wA g4)))] := hD
        refine wi_inc (k := 2) (lv' := [(2, .int (nI (k + 1))), (0, .ref h), (1, .ref o)]) hx hb d_Cl_copyFrom_25 hl rfl (by decide) rfl (fun ls hl => ?_)
        refine lv_goto hx hb d_Cl_copyFrom_28 rfl ?_
        exact ih10 (q - (k + 1)) (by omega) (k + 1) (va_up u1 k (g1 k)) (va_up u2 k (g2 k)) (va_up u3 k (g3 k)) (va_up u4 k (g4 k)) ls H locs rfl (by omega) (up_lt hu1) (up_lt hu2) (up_lt hu3) (up_lt hu4) (lv_sub hl [1, 2, 0] rfl) hP hD hS
  exact loop10 _ (0) (f1) (f2) (f3) (f4) ls H locs rfl (Nat.zero_le _) lt_0 lt_0 lt_0 lt_0 (lv_sub hl [1, 2, 0] rfl) hP hD hS
set_option maxHeartbeats 4000000 in
set_option maxRecDepth 100000 in
theorem c_Cl_insert (l : Launch) (Hs : Heap) (D : va_G) (cI cZ cL : ClassId) (h : Nat) (a1 : Nat) (a2 : Nat) (a3 : Nat) (a4 : Nat) (n : Nat) (f1 : Nat → Nat) (f2 : Nat → Nat) (f3 : Nat → Nat) (f4 : Nat → Nat) (v : Nat) (z : Nat) (hn : n < 10) (hv : v < 2 ^ 31) (hf : ∀ t, t < n → f1 t < 2 ^ 31) : kV l Hs D kcl (ty3 cI cZ cL) y_Cl_insert (mws y_Cl_insert b_Cl_insert 4 (Option.none : Option Jvm.ClassFile.FieldType)) ({ frames := 1, cells := 0, slots := 0, locals := 23 } : Room) [.ref h, .int (nI v), .int (nI z)] [(h, .inr (0, [.ref a1, .ref a2, .ref a3, .ref a4, .int (nI n)])), (a1, .inl (cI, 10, .inl (wA f1))), (a2, .inl (cI, 10, .inl (wA f2))), (a3, .inl (cI, 10, .inl (wA f3))), (a4, .inl (cI, 10, .inl (wA f4)))] (fun w => ∃ (pp : Nat), ∃ (u1 : Nat → Nat), ∃ (u2 : Nat → Nat), ∃ (u3 : Nat → Nat), ∃ (u4 : Nat → Nat), (pp ≤ n) ∧ ((pp = 0 ∨ f1 (pp - 1) ≤ v)) ∧ ((∀ j, pp ≤ j → j < n → v < f1 j)) ∧ (pw_in f1 u1 n pp v) ∧ (pw_in f2 u2 n pp z) ∧ (pw_in f3 u3 n pp 0) ∧ (pw_in f4 u4 n pp 0) ∧ w = [(h, .inr (0, [.ref a1, .ref a2, .ref a3, .ref a4, .int (nI (n + 1))])), (a1, .inl (cI, 10, .inl (wA u1))), (a2, .inl (cI, 10, .inl (wA u2))), (a3, .inl (cI, 10, .inl (wA u3))), (a4, .inl (cI, 10, .inl (wA u4)))]) := by
  intro sz
  refine k_of (cc := b_Cl_insert) (maxL := 4) (ret := (Option.none : Option Jvm.ClassFile.FieldType)) (by decide) rfl (Nat.le_of_ble_eq_true rfl) ?_
  intro p e s m args below meth c ls H locs A Q hQ hx hb hml hr hts hown hlk hnm hsz hAe hP hK hD hS hA hE hAH hl
  have ht : ∀ w ∈ mw, w.before args s = true := fun w h => hts w (List.mem_cons_of_mem _ h)
  have hl : lv_has ls 4 [(0, .ref h), (1, .int (nI v)), (2, .int (nI z))] := hl
  refine lv_aload_n hx hb d_Cl_insert_0 rfl (lv_at hl 0 rfl) ?_
  refine va_get (D := D) (ci := 0) (v := .int (nI n)) (C := R_Cl) (T := T_Cl) (N := 5) hx hb ht u_Cl hown hK hP 0 rfl rfl 4 (by decide) (ht _ wd_56) (fun _ h9 => h9) rfl d_Cl_insert_1 ?_
  refine lv_istore_n (lv' := [(3, .int (nI n)), (0, .ref h), (1, .int (nI v)), (2, .int (nI z))]) hx hb d_Cl_insert_4 rfl hl (by decide) rfl (fun ls hl => ?_)
  have loop5 : ∀ (d : Nat) (k : Nat) (u1 : Nat → Nat) (u2 : Nat → Nat) (u3 : Nat → Nat) (u4 : Nat → Nat) (ls : Array Slot) (H : Heap) (locs : List Loc), k = d → (k ≤ n) → (∀ j, k ≤ j → j < n → v < f1 j) → ((∀ t, t < k → u1 t = f1 t) ∧ ∀ t, k ≤ t → t < n → u1 (t + 1) = f1 t) → ((∀ t, t < k → u2 t = f2 t) ∧ ∀ t, k ≤ t → t < n → u2 (t + 1) = f2 t) → ((∀ t, t < k → u3 t = f3 t) ∧ ∀ t, k ≤ t → t < n → u3 (t + 1) = f3 t) → ((∀ t, t < k → u4 t = f4 t) ∧ ∀ t, k ≤ t → t < n → u4 (t + 1) = f4 t) → lv_has ls 4 [(0, .ref h), (1, .int (nI v)), (2, .int (nI z)), (3, .int (nI k))] → va_P D kcl [(h, .inr (0, [.ref a1, .ref a2, .ref a3, .ref a4, .int (nI n)])), (a1, .inl (cI, 10, .inl (wA u1))), (a2, .inl (cI, 10, .inl (wA u2))), (a3, .inl (cI, 10, .inl (wA u3))), (a4, .inl (cI, 10, .inl (wA u4)))] H → va_D A [(h, .inr (0, [.ref a1, .ref a2, .ref a3, .ref a4, .int (nI n)])), (a1, .inl (cI, 10, .inl (wA u1))), (a2, .inl (cI, 10, .inl (wA u2))), (a3, .inl (cI, 10, .inl (wA u3))), (a4, .inl (cI, 10, .inl (wA u4)))] → va_S A s.heap H locs → W p l e ({ frames := 1, cells := 0, slots := 0, locals := 23 } : Room) s m args below meth c H locs 0 0 Q (F0 m 5 ls []) := by
    intro d
    induction d using Nat.strongRecOn with
    | ind d ih5 =>
      intro k u1 u2 u3 u4 ls H locs hd5 hk hbig hu1 hu2 hu3 hu4 hl hP hD hS
      refine lv_iload_n hx hb d_Cl_insert_5 rfl (lv_at hl 3 rfl) ?_
      refine wi_if_le hx hb d_Cl_insert_6 rfl (by omega) (fun h6 => ?_) (fun h6 => ?_)
      · have hlow : k = 0 ∨ f1 (k - 1) ≤ v := Or.inl h6
        refine lv_aload_n hx hb d_Cl_insert_36 rfl (lv_at hl 0 rfl) ?_
        refine va_get (D := D) (ci := 0) (v := .ref a1) (C := R_Cl) (T := T_Cl) (N := 5) hx hb ht u_Cl hown hK hP 0 rfl rfl 0 (by decide) (ht _ wd_52) (fun _ h9 => h9) rfl d_Cl_insert_37 ?_
        refine lv_iload_n hx hb d_Cl_insert_40 rfl (lv_at hl 3 rfl) ?_
        refine lv_iload_n hx hb d_Cl_insert_41 rfl (lv_at hl 1 rfl) ?_
        refine wi_ast hx hb hK hP hD hS 1 0 rfl rfl (by omega) (by omega) d_Cl_insert_42 (fun H locs hP hD hS => ?_)
        have hP : va_P D kcl [(h, .inr (0, [.ref a1, .ref a2, .ref a3, .ref a4, .int (nI n)])), (a1, .inl (cI, 10, .inl (wA (va_up u1 k v)))), (a2, .inl (cI, 10, .inl (wA u2))), (a3, .inl (cI, 10, .inl (wA u3))), (a4, .inl (cI, 10, .inl (wA u4)))] H := hP
        have hD : va_D A [(h, .inr (0, [.ref a1, .ref a2, .ref a3, .ref a4, .int (nI n)])), (a1, .inl (cI, 10, .inl (wA (va_up u1 k v)))), (a2, .inl (cI, 10, .inl (wA u2))), (a3, .inl (cI, 10, .inl (wA u3))), (a4, .inl (cI, 10, .inl (wA u4)))] := hD
        refine lv_aload_n hx hb d_Cl_insert_43 rfl (lv_at hl 0 rfl) ?_
        refine va_get (D := D) (ci := 0) (v := .ref a2) (C := R_Cl) (T := T_Cl) (N := 5) hx hb ht u_Cl hown hK hP 0 rfl rfl 1 (by decide) (ht _ wd_53) (fun _ h9 => h9) rfl d_Cl_insert_44 ?_
        refine lv_iload_n hx hb d_Cl_insert_47 rfl (lv_at hl 3 rfl) ?_
        refine lv_iload_n hx hb d_Cl_insert_48 rfl (lv_at hl 2 rfl) ?_
        refine wi_ast hx hb hK hP hD hS 2 0 rfl rfl (by omega) (by omega) d_Cl_insert_49 (fun H locs hP hD hS => ?_)
        have hP : va_P D kcl [(h, .inr (0, [.ref a1, .ref a2, .ref a3, .ref a4, .int (nI n)])), (a1, .inl (cI, 10, .inl (wA (va_up u1 k v)))), (a2, .inl (cI, 10, .inl (wA (va_up u2 k z)))), (a3, .inl (cI, 10, .inl (wA u3))), (a4, .inl (cI, 10, .inl (wA u4)))] H := hP
        have hD : va_D A [(h, .inr (0, [.ref a1, .ref a2, .ref a3, .ref a4, .int (nI n)])), (a1, .inl (cI, 10, .inl (wA (va_up u1 k v)))), (a2, .inl (cI, 10, .inl (wA (va_up u2 k z)))), (a3, .inl (cI, 10, .inl (wA u3))), (a4, .inl (cI, 10, .inl (wA u4)))] := hD
        refine lv_aload_n hx hb d_Cl_insert_50 rfl (lv_at hl 0 rfl) ?_
        refine va_get (D := D) (ci := 0) (v := .ref a3) (C := R_Cl) (T := T_Cl) (N := 5) hx hb ht u_Cl hown hK hP 0 rfl rfl 2 (by decide) (ht _ wd_54) (fun _ h9 => h9) rfl d_Cl_insert_51 ?_
        refine lv_iload_n hx hb d_Cl_insert_54 rfl (lv_at hl 3 rfl) ?_
        refine lv_iconst (v := nI 0) hx hb d_Cl_insert_55 (by decide) ?_
        refine wi_ast hx hb hK hP hD hS 3 0 rfl rfl (by omega) (by omega) d_Cl_insert_56 (fun H locs hP hD hS => ?_)
        have hP : va_P D kcl [(h, .inr (0, [.ref a1, .ref a2, .ref a3, .ref a4, .int (nI n)])), (a1, .inl (cI, 10, .inl (wA (va_up u1 k v)))), (a2, .inl (cI, 10, .inl (wA (va_up u2 k z)))), (a3, .inl (cI, 10, .inl (wA (va_up u3 k 0)))), (a4, .inl (cI, 10, .inl (wA u4)))] H := hP
        have hD : va_D A [(h, .inr (0, [.ref a1, .ref a2, .ref a3, .ref a4, .int (nI n)])), (a1, .inl (cI, 10, .inl (wA (va_up u1 k v)))), (a2, .inl (cI, 10, .inl (wA (va_up u2 k z)))), (a3, .inl (cI, 10, .inl (wA (va_up u3 k 0)))), (a4, .inl (cI, 10, .inl (wA u4)))] := hD
        refine lv_aload_n hx hb d_Cl_insert_57 rfl (lv_at hl 0 rfl) ?_
        refine va_get (D := D) (ci := 0) (v := .ref a4) (C := R_Cl) (T := T_Cl) (N := 5) hx hb ht u_Cl hown hK hP 0 rfl rfl 3 (by decide) (ht _ wd_55) (fun _ h9 => h9) rfl d_Cl_insert_58 ?_
        refine lv_iload_n hx hb d_Cl_insert_61 rfl (lv_at hl 3 rfl) ?_
        refine lv_iconst (v := nI 0) hx hb d_Cl_insert_62 (by decide) ?_
        refine wi_ast hx hb hK hP hD hS 4 0 rfl rfl (by omega) (by omega) d_Cl_insert_63 (fun H locs hP hD hS => ?_)
        have hP : va_P D kcl [(h, .inr (0, [.ref a1, .ref a2, .ref a3, .ref a4, .int (nI n)])), (a1, .inl (cI, 10, .inl (wA (va_up u1 k v)))), (a2, .inl (cI, 10, .inl (wA (va_up u2 k z)))), (a3, .inl (cI, 10, .inl (wA (va_up u3 k 0)))), (a4, .inl (cI, 10, .inl (wA (va_up u4 k 0))))] H := hP
        have hD : va_D A [(h, .inr (0, [.ref a1, .ref a2, .ref a3, .ref a4, .int (nI n)])), (a1, .inl (cI, 10, .inl (wA (va_up u1 k v)))), (a2, .inl (cI, 10, .inl (wA (va_up u2 k z)))), (a3, .inl (cI, 10, .inl (wA (va_up u3 k 0)))), (a4, .inl (cI, 10, .inl (wA (va_up u4 k 0))))] := hD
        refine lv_aload_n hx hb d_Cl_insert_64 rfl (lv_at hl 0 rfl) ?_
        refine lv_dup hx hb d_Cl_insert_65 rfl ?_
        refine va_get (D := D) (ci := 0) (v := .int (nI n)) (C := R_Cl) (T := T_Cl) (N := 5) hx hb ht u_Cl hown hK hP 0 rfl rfl 4 (by decide) (ht _ wd_56) (fun _ h9 => h9) rfl d_Cl_insert_66 ?_
        refine lv_iconst (v := nI 1) hx hb d_Cl_insert_69 (by decide) ?_
        refine wi_add hx hb d_Cl_insert_70 ?_
        refine va_put (D := D) (ci := 0) (v := .int (nI (n + 1))) (ty := .int) (C := R_Cl) (T := T_Cl) (N := 5) hx hb ht u_Cl t_Cl t_Cl_ok n_Cl hown hK hP hD hS 0 rfl rfl 4 (by decide) (ht _ wd_56) (fun _ h9 => h9) rfl (by decide +kernel) rfl rfl (Nat.le_of_ble_eq_true rfl) d_Cl_insert_71 (fun H locs hP hD hS => ?_)
        have hP : va_P D kcl [(h, .inr (0, [.ref a1, .ref a2, .ref a3, .ref a4, .int (nI (n + 1))])), (a1, .inl (cI, 10, .inl (wA (va_up u1 k v)))), (a2, .inl (cI, 10, .inl (wA (va_up u2 k z)))), (a3, .inl (cI, 10, .inl (wA (va_up u3 k 0)))), (a4, .inl (cI, 10, .inl (wA (va_up u4 k 0))))] H := hP
        have hD : va_D A [(h, .inr (0, [.ref a1, .ref a2, .ref a3, .ref a4, .int (nI (n + 1))])), (a1, .inl (cI, 10, .inl (wA (va_up u1 k v)))), (a2, .inl (cI, 10, .inl (wA (va_up u2 k z)))), (a3, .inl (cI, 10, .inl (wA (va_up u3 k 0)))), (a4, .inl (cI, 10, .inl (wA (va_up u4 k 0))))] := hD
        exact k_retv hQ hx hb hr hlk hAe hK hP hD hS (Nat.le_of_ble_eq_true rfl) (Nat.le_of_ble_eq_true rfl) (Nat.le_of_ble_eq_true rfl) ⟨k, _, _, _, _, hk, hlow, hbig, up_in hu1 v, up_in hu2 z, up_in hu3 0, up_in hu4 0, rfl⟩ d_Cl_insert_74
      · refine lv_aload_n hx hb d_Cl_insert_9 rfl (lv_at hl 0 rfl) ?_
        refine va_get (D := D) (ci := 0) (v := .ref a1) (C := R_Cl) (T := T_Cl) (N := 5) hx hb ht u_Cl hown hK hP 0 rfl rfl 0 (by decide) (ht _ wd_52) (fun _ h9 => h9) rfl d_Cl_insert_10 ?_
        refine lv_iload_n hx hb d_Cl_insert_13 rfl (lv_at hl 3 rfl) ?_
        refine lv_iconst (v := nI 1) hx hb d_Cl_insert_14 (by decide) ?_
        refine wi_sub hx hb d_Cl_insert_15 (by omega) ?_
        refine wi_ald hx hb hK hP 1 0 rfl rfl (by omega) (by decide) d_Cl_insert_16 ?_
        refine lv_iload_n hx hb d_Cl_insert_17 rfl (lv_at hl 1 rfl) ?_
        refine wi_le hx hb d_Cl_insert_18 rfl (by have := hu1.1 (k - 1) (by omega); have := hf (k - 1) (by omega); omega) hv (fun h18 => ?_) (fun h18 => ?_)
        · have hlow : k = 0 ∨ f1 (k - 1) ≤ v := Or.inr (by rw [← hu1.1 (k - 1) (by omega)]; exact h18)
          refine lv_aload_n hx hb d_Cl_insert_36 rfl (lv_at hl 0 rfl) ?_
          refine va_get (D := D) (ci := 0) (v := .ref a1) (C := R_Cl) (T := T_Cl) (N := 5) hx hb ht u_Cl hown hK hP 0 rfl rfl 0 (by decide) (ht _ wd_52) (fun _ h9 => h9) rfl d_Cl_insert_37 ?_
          refine lv_iload_n hx hb d_Cl_insert_40 rfl (lv_at hl 3 rfl) ?_
          refine lv_iload_n hx hb d_Cl_insert_41 rfl (lv_at hl 1 rfl) ?_
          refine wi_ast hx hb hK hP hD hS 1 0 rfl rfl (by omega) (by omega) d_Cl_insert_42 (fun H locs hP hD hS => ?_)
          have hP : va_P D kcl [(h, .inr (0, [.ref a1, .ref a2, .ref a3, .ref a4, .int (nI n)])), (a1, .inl (cI, 10, .inl (wA (va_up u1 k v)))), (a2, .inl (cI, 10, .inl (wA u2))), (a3, .inl (cI, 10, .inl (wA u3))), (a4, .inl (cI, 10, .inl (wA u4)))] H := hP
          have hD : va_D A [(h, .inr (0, [.ref a1, .ref a2, .ref a3, .ref a4, .int (nI n)])), (a1, .inl (cI, 10, .inl (wA (va_up u1 k v)))), (a2, .inl (cI, 10, .inl (wA u2))), (a3, .inl (cI, 10, .inl (wA u3))), (a4, .inl (cI, 10, .inl (wA u4)))] := hD
          refine lv_aload_n hx hb d_Cl_insert_43 rfl (lv_at hl 0 rfl) ?_
          refine va_get (D := D) (ci := 0) (v := .ref a2) (C := R_Cl) (T := T_Cl) (N := 5) hx hb ht u_Cl hown hK hP 0 rfl rfl 1 (by decide) (ht _ wd_53) (fun _ h9 => h9) rfl d_Cl_insert_44 ?_
          refine lv_iload_n hx hb d_Cl_insert_47 rfl (lv_at hl 3 rfl) ?_
          refine lv_iload_n hx hb d_Cl_insert_48 rfl (lv_at hl 2 rfl) ?_
          refine wi_ast hx hb hK hP hD hS 2 0 rfl rfl (by omega) (by omega) d_Cl_insert_49 (fun H locs hP hD hS => ?_)
          have hP : va_P D kcl [(h, .inr (0, [.ref a1, .ref a2, .ref a3, .ref a4, .int (nI n)])), (a1, .inl (cI, 10, .inl (wA (va_up u1 k v)))), (a2, .inl (cI, 10, .inl (wA (va_up u2 k z)))), (a3, .inl (cI, 10, .inl (wA u3))), (a4, .inl (cI, 10, .inl (wA u4)))] H := hP
          have hD : va_D A [(h, .inr (0, [.ref a1, .ref a2, .ref a3, .ref a4, .int (nI n)])), (a1, .inl (cI, 10, .inl (wA (va_up u1 k v)))), (a2, .inl (cI, 10, .inl (wA (va_up u2 k z)))), (a3, .inl (cI, 10, .inl (wA u3))), (a4, .inl (cI, 10, .inl (wA u4)))] := hD
          refine lv_aload_n hx hb d_Cl_insert_50 rfl (lv_at hl 0 rfl) ?_
          refine va_get (D := D) (ci := 0) (v := .ref a3) (C := R_Cl) (T := T_Cl) (N := 5) hx hb ht u_Cl hown hK hP 0 rfl rfl 2 (by decide) (ht _ wd_54) (fun _ h9 => h9) rfl d_Cl_insert_51 ?_
          refine lv_iload_n hx hb d_Cl_insert_54 rfl (lv_at hl 3 rfl) ?_
          refine lv_iconst (v := nI 0) hx hb d_Cl_insert_55 (by decide) ?_
          refine wi_ast hx hb hK hP hD hS 3 0 rfl rfl (by omega) (by omega) d_Cl_insert_56 (fun H locs hP hD hS => ?_)
          have hP : va_P D kcl [(h, .inr (0, [.ref a1, .ref a2, .ref a3, .ref a4, .int (nI n)])), (a1, .inl (cI, 10, .inl (wA (va_up u1 k v)))), (a2, .inl (cI, 10, .inl (wA (va_up u2 k z)))), (a3, .inl (cI, 10, .inl (wA (va_up u3 k 0)))), (a4, .inl (cI, 10, .inl (wA u4)))] H := hP
          have hD : va_D A [(h, .inr (0, [.ref a1, .ref a2, .ref a3, .ref a4, .int (nI n)])), (a1, .inl (cI, 10, .inl (wA (va_up u1 k v)))), (a2, .inl (cI, 10, .inl (wA (va_up u2 k z)))), (a3, .inl (cI, 10, .inl (wA (va_up u3 k 0)))), (a4, .inl (cI, 10, .inl (wA u4)))] := hD
          refine lv_aload_n hx hb d_Cl_insert_57 rfl (lv_at hl 0 rfl) ?_
          refine va_get (D := D) (ci := 0) (v := .ref a4) (C := R_Cl) (T := T_Cl) (N := 5) hx hb ht u_Cl hown hK hP 0 rfl rfl 3 (by decide) (ht _ wd_55) (fun _ h9 => h9) rfl d_Cl_insert_58 ?_
          refine lv_iload_n hx hb d_Cl_insert_61 rfl (lv_at hl 3 rfl) ?_
          refine lv_iconst (v := nI 0) hx hb d_Cl_insert_62 (by decide) ?_
          refine wi_ast hx hb hK hP hD hS 4 0 rfl rfl (by omega) (by omega) d_Cl_insert_63 (fun H locs hP hD hS => ?_)
          have hP : va_P D kcl [(h, .inr (0, [.ref a1, .ref a2, .ref a3, .ref a4, .int (nI n)])), (a1, .inl (cI, 10, .inl (wA (va_up u1 k v)))), (a2, .inl (cI, 10, .inl (wA (va_up u2 k z)))), (a3, .inl (cI, 10, .inl (wA (va_up u3 k 0)))), (a4, .inl (cI, 10, .inl (wA (va_up u4 k 0))))] H := hP
          have hD : va_D A [(h, .inr (0, [.ref a1, .ref a2, .ref a3, .ref a4, .int (nI n)])), (a1, .inl (cI, 10, .inl (wA (va_up u1 k v)))), (a2, .inl (cI, 10, .inl (wA (va_up u2 k z)))), (a3, .inl (cI, 10, .inl (wA (va_up u3 k 0)))), (a4, .inl (cI, 10, .inl (wA (va_up u4 k 0))))] := hD
          refine lv_aload_n hx hb d_Cl_insert_64 rfl (lv_at hl 0 rfl) ?_
          refine lv_dup hx hb d_Cl_insert_65 rfl ?_
          refine va_get (D := D) (ci := 0) (v := .int (nI n)) (C := R_Cl) (T := T_Cl) (N := 5) hx hb ht u_Cl hown hK hP 0 rfl rfl 4 (by decide) (ht _ wd_56) (fun _ h9 => h9) rfl d_Cl_insert_66 ?_
          refine lv_iconst (v := nI 1) hx hb d_Cl_insert_69 (by decide) ?_
          refine wi_add hx hb d_Cl_insert_70 ?_
          refine va_put (D := D) (ci := 0) (v := .int (nI (n + 1))) (ty := .int) (C := R_Cl) (T := T_Cl) (N := 5) hx hb ht u_Cl t_Cl t_Cl_ok n_Cl hown hK hP hD hS 0 rfl rfl 4 (by decide) (ht _ wd_56) (fun _ h9 => h9) rfl (by decide +kernel) rfl rfl (Nat.le_of_ble_eq_true rfl) d_Cl_insert_71 (fun H locs hP hD hS => ?_)
          have hP : va_P D kcl [(h, .inr (0, [.ref a1, .ref a2, .ref a3, .ref a4, .int (nI (n + 1))])), (a1, .inl (cI, 10, .inl (wA (va_up u1 k v)))), (a2, .inl (cI, 10, .inl (wA (va_up u2 k z)))), (a3, .inl (cI, 10, .inl (wA (va_up u3 k 0)))), (a4, .inl (cI, 10, .inl (wA (va_up u4 k 0))))] H := hP
          have hD : va_D A [(h, .inr (0, [.ref a1, .ref a2, .ref a3, .ref a4, .int (nI (n + 1))])), (a1, .inl (cI, 10, .inl (wA (va_up u1 k v)))), (a2, .inl (cI, 10, .inl (wA (va_up u2 k z)))), (a3, .inl (cI, 10, .inl (wA (va_up u3 k 0)))), (a4, .inl (cI, 10, .inl (wA (va_up u4 k 0))))] := hD
          exact k_retv hQ hx hb hr hlk hAe hK hP hD hS (Nat.le_of_ble_eq_true rfl) (Nat.le_of_ble_eq_true rfl) (Nat.le_of_ble_eq_true rfl) ⟨k, _, _, _, _, hk, hlow, hbig, up_in hu1 v, up_in hu2 z, up_in hu3 0, up_in hu4 0, rfl⟩ d_Cl_insert_74
        · refine lv_aload_n hx hb d_Cl_insert_21 rfl (lv_at hl 0 rfl) ?_
          refine lv_iload_n hx hb d_Cl_insert_22 rfl (lv_at hl 3 rfl) ?_
          refine lv_aload_n hx hb d_Cl_insert_23 rfl (lv_at hl 0 rfl) ?_
          refine lv_iload_n hx hb d_Cl_insert_24 rfl (lv_at hl 3 rfl) ?_
          refine lv_iconst (v := nI 1) hx hb d_Cl_insert_25 (by decide) ?_
          refine wi_sub hx hb d_Cl_insert_26 (by omega) ?_
          refine ck_v (wc := [(h, .inr (0, [.ref a1, .ref a2, .ref a3, .ref a4, .int (nI n)])), (a1, .inl (cI, 10, .inl (wA u1))), (a2, .inl (cI, 10, .inl (wA u2))), (a3, .inl (cI, 10, .inl (wA u3))), (a4, .inl (cI, 10, .inl (wA u4)))]) (va_runV (As := [.int (nI k), .ref h, .int (nI (k - 1))]) (rest := []) (C := R_Cl) ⟨hx, hb, hml, hown, ht⟩ (c_Cl_copyAt2 l Hs D cI cZ cL h a1 a2 a3 a4 n u1 u2 u3 u4 k (k - 1) (by omega) (by omega) H.size) (gw_V 3 ht wd_137 wd_3 wd_134 wd_136 ws_1 (by decide +kernel) ⟨Nat.le_of_ble_eq_true rfl, Nat.le_of_ble_eq_true rfl⟩) (k_preV hE hAH hK hP hD hS [0, 1, 2, 3, 4] rfl rfl 0 rfl rfl) rfl rfl hl.1 rfl (lv_room (Nat.le_of_ble_eq_true rfl)) d_Cl_insert_27 ⟨Nat.le_of_ble_eq_true rfl, Nat.le_of_ble_eq_true rfl⟩) hP hD hS hA [0, 1, 2, 3, 4] rfl rfl (fun w1 H locs hpost hP hD hS => ?_)
          obtain rfl := hpost
          have hP : va_P D kcl [(h, .inr (0, [.ref a1, .ref a2, .ref a3, .ref a4, .int (nI n)])), (a1, .inl (cI, 10, .inl (wA (va_up u1 k (u1 (k - 1)))))), (a2, .inl (cI, 10, .inl (wA (va_up u2 k (u2 (k - 1)))))), (a3, .inl (cI, 10, .inl (wA (va_up u3 k (u3 (k - 1)))))), (a4, .inl (cI, 10, .inl (wA (va_up u4 k (u4 (k - 1))))))] H := hP
          have hD : va_D A [(h, .inr (0, [.ref a1, .ref a2, .ref a3, .ref a4, .int (nI n)])), (a1, .inl (cI, 10, .inl (wA (va_up u1 k (u1 (k - 1)))))), (a2, .inl (cI, 10, .inl (wA (va_up u2 k (u2 (k - 1)))))), (a3, .inl (cI, 10, .inl (wA (va_up u3 k (u3 (k - 1)))))), (a4, .inl (cI, 10, .inl (wA (va_up u4 k (u4 (k - 1))))))] := hD
          refine wi_dec (k := 3) (lv' := [(3, .int (nI (k - 1))), (0, .ref h), (1, .int (nI v)), (2, .int (nI z))]) hx hb d_Cl_insert_30 hl (by omega) rfl (by decide) rfl (fun ls hl => ?_)
          refine lv_goto hx hb d_Cl_insert_33 rfl ?_
          exact ih5 ((k - 1)) (by omega) (k - 1) (va_up u1 k (u1 (k - 1))) (va_up u2 k (u2 (k - 1))) (va_up u3 k (u3 (k - 1))) (va_up u4 k (u4 (k - 1))) ls H locs rfl (by omega) (fun j h1 h2 => by
      by_cases e : j = k - 1
      · rw [e, ← hu1.1 (k - 1) (by omega)]; exact h18
      · exact hbig j (by omega) h2) (up_mv hu1 h6 hk) (up_mv hu2 h6 hk) (up_mv hu3 h6 hk) (up_mv hu4 h6 hk) (lv_sub hl [1, 2, 3, 0] rfl) hP hD hS
  exact loop5 _ (n) (f1) (f2) (f3) (f4) ls H locs rfl (Nat.le_refl _) (fun j h1 h2 => by omega) ⟨fun t _ => rfl, fun t h1 h2 => by omega⟩ ⟨fun t _ => rfl, fun t h1 h2 => by omega⟩ ⟨fun t _ => rfl, fun t h1 h2 => by omega⟩ ⟨fun t _ => rfl, fun t h1 h2 => by omega⟩ (lv_sub hl [1, 2, 3, 0] rfl) hP hD hS
set_option maxHeartbeats 4000000 in
set_option maxRecDepth 100000 in
theorem c_Cl_removeAt (l : Launch) (Hs : Heap) (D : va_G) (cI cZ cL : ClassId) (h : Nat) (a1 : Nat) (a2 : Nat) (a3 : Nat) (a4 : Nat) (n : Nat) (f1 : Nat → Nat) (f2 : Nat → Nat) (f3 : Nat → Nat) (f4 : Nat → Nat) (i : Nat) (hn : n ≤ 10) (hi : i < n) : kV l Hs D kcl (ty3 cI cZ cL) y_Cl_removeAt (mws y_Cl_removeAt b_Cl_removeAt 3 (Option.none : Option Jvm.ClassFile.FieldType)) ({ frames := 1, cells := 0, slots := 0, locals := 23 } : Room) [.ref h, .int (nI i)] [(h, .inr (0, [.ref a1, .ref a2, .ref a3, .ref a4, .int (nI n)])), (a1, .inl (cI, 10, .inl (wA f1))), (a2, .inl (cI, 10, .inl (wA f2))), (a3, .inl (cI, 10, .inl (wA f3))), (a4, .inl (cI, 10, .inl (wA f4)))] (fun w => ∃ (u1 : Nat → Nat), ∃ (u2 : Nat → Nat), ∃ (u3 : Nat → Nat), ∃ (u4 : Nat → Nat), (pw_ou f1 u1 n i) ∧ (pw_ou f2 u2 n i) ∧ (pw_ou f3 u3 n i) ∧ (pw_ou f4 u4 n i) ∧ w = [(h, .inr (0, [.ref a1, .ref a2, .ref a3, .ref a4, .int (nI (n - 1))])), (a1, .inl (cI, 10, .inl (wA u1))), (a2, .inl (cI, 10, .inl (wA u2))), (a3, .inl (cI, 10, .inl (wA u3))), (a4, .inl (cI, 10, .inl (wA u4)))]) := by
  intro sz
  refine k_of (cc := b_Cl_removeAt) (maxL := 3) (ret := (Option.none : Option Jvm.ClassFile.FieldType)) (by decide) rfl (Nat.le_of_ble_eq_true rfl) ?_
  intro p e s m args below meth c ls H locs A Q hQ hx hb hml hr hts hown hlk hnm hsz hAe hP hK hD hS hA hE hAH hl
  have ht : ∀ w ∈ mw, w.before args s = true := fun w h => hts w (List.mem_cons_of_mem _ h)
  have hl : lv_has ls 3 [(0, .ref h), (1, .int (nI i))] := hl
  refine lv_aload_n hx hb d_Cl_removeAt_0 rfl (lv_at hl 0 rfl) ?_
  refine lv_dup hx hb d_Cl_removeAt_1 rfl ?_
  refine va_get (D := D) (ci := 0) (v := .int (nI n)) (C := R_Cl) (T := T_Cl) (N := 5) hx hb ht u_Cl hown hK hP 0 rfl rfl 4 (by decide) (ht _ wd_56) (fun _ h9 => h9) rfl d_Cl_removeAt_2 ?_
  refine lv_iconst (v := nI 1) hx hb d_Cl_removeAt_5 (by decide) ?_
  refine wi_sub hx hb d_Cl_removeAt_6 (by omega) ?_
  refine va_put (D := D) (ci := 0) (v := .int (nI (n - 1))) (ty := .int) (C := R_Cl) (T := T_Cl) (N := 5) hx hb ht u_Cl t_Cl t_Cl_ok n_Cl hown hK hP hD hS 0 rfl rfl 4 (by decide) (ht _ wd_56) (fun _ h9 => h9) rfl (by decide +kernel) rfl rfl (Nat.le_of_ble_eq_true rfl) d_Cl_removeAt_7 (fun H locs hP hD hS => ?_)
  have hP : va_P D kcl [(h, .inr (0, [.ref a1, .ref a2, .ref a3, .ref a4, .int (nI (n - 1))])), (a1, .inl (cI, 10, .inl (wA f1))), (a2, .inl (cI, 10, .inl (wA f2))), (a3, .inl (cI, 10, .inl (wA f3))), (a4, .inl (cI, 10, .inl (wA f4)))] H := hP
  have hD : va_D A [(h, .inr (0, [.ref a1, .ref a2, .ref a3, .ref a4, .int (nI (n - 1))])), (a1, .inl (cI, 10, .inl (wA f1))), (a2, .inl (cI, 10, .inl (wA f2))), (a3, .inl (cI, 10, .inl (wA f3))), (a4, .inl (cI, 10, .inl (wA f4)))] := hD
  refine lv_iload_n hx hb d_Cl_removeAt_10 rfl (lv_at hl 1 rfl) ?_
  refine lv_istore_n (lv' := [(2, .int (nI i)), (0, .ref h), (1, .int (nI i))]) hx hb d_Cl_removeAt_11 rfl hl (by decide) rfl (fun ls hl => ?_)
  have loop12 : ∀ (d : Nat) (k : Nat) (u1 : Nat → Nat) (u2 : Nat → Nat) (u3 : Nat → Nat) (u4 : Nat → Nat) (ls : Array Slot) (H : Heap) (locs : List Loc), n - k = d → (k < n) → (i ≤ k) → ((∀ t, t < k → u1 t = if t < i then f1 t else f1 (t + 1)) ∧ ∀ t, k ≤ t → u1 t = f1 t) → ((∀ t, t < k → u2 t = if t < i then f2 t else f2 (t + 1)) ∧ ∀ t, k ≤ t → u2 t = f2 t) → ((∀ t, t < k → u3 t = if t < i then f3 t else f3 (t + 1)) ∧ ∀ t, k ≤ t → u3 t = f3 t) → ((∀ t, t < k → u4 t = if t < i then f4 t else f4 (t + 1)) ∧ ∀ t, k ≤ t → u4 t = f4 t) → lv_has ls 3 [(0, .ref h), (1, .int (nI i)), (2, .int (nI k))] → va_P D kcl [(h, .inr (0, [.ref a1, .ref a2, .ref a3, .ref a4, .int (nI (n - 1))])), (a1, .inl (cI, 10, .inl (wA u1))), (a2, .inl (cI, 10, .inl (wA u2))), (a3, .inl (cI, 10, .inl (wA u3))), (a4, .inl (cI, 10, .inl (wA u4)))] H → va_D A [(h, .inr (0, [.ref a1, .ref a2, .ref a3, .ref a4, .int (nI (n - 1))])), (a1, .inl (cI, 10, .inl (wA u1))), (a2, .inl (cI, 10, .inl (wA u2))), (a3, .inl (cI, 10, .inl (wA u3))), (a4, .inl (cI, 10, .inl (wA u4)))] → va_S A s.heap H locs → W p l e ({ frames := 1, cells := 0, slots := 0, locals := 23 } : Room) s m args below meth c H locs 0 0 Q (F0 m 12 ls []) := by
    intro d
    induction d using Nat.strongRecOn with
    | ind d ih12 =>
      intro k u1 u2 u3 u4 ls H locs hd12 hk hik hu1 hu2 hu3 hu4 hl hP hD hS
      refine lv_iload_n hx hb d_Cl_removeAt_12 rfl (lv_at hl 2 rfl) ?_
      refine lv_aload_n hx hb d_Cl_removeAt_13 rfl (lv_at hl 0 rfl) ?_
      refine va_get (D := D) (ci := 0) (v := .int (nI (n - 1))) (C := R_Cl) (T := T_Cl) (N := 5) hx hb ht u_Cl hown hK hP 0 rfl rfl 4 (by decide) (ht _ wd_56) (fun _ h9 => h9) rfl d_Cl_removeAt_14 ?_
      refine wi_ge hx hb d_Cl_removeAt_17 rfl (by omega) (by omega) (fun h17 => ?_) (fun h17 => ?_)
      · exact k_retv hQ hx hb hr hlk hAe hK hP hD hS (Nat.le_of_ble_eq_true rfl) (Nat.le_of_ble_eq_true rfl) (Nat.le_of_ble_eq_true rfl) ⟨u1, u2, u3, u4, fun t ht => hu1.1 t (by omega), fun t ht => hu2.1 t (by omega), fun t ht => hu3.1 t (by omega), fun t ht => hu4.1 t (by omega), rfl⟩ d_Cl_removeAt_35
      · refine lv_aload_n hx hb d_Cl_removeAt_20 rfl (lv_at hl 0 rfl) ?_
        refine lv_iload_n hx hb d_Cl_removeAt_21 rfl (lv_at hl 2 rfl) ?_
        refine lv_aload_n hx hb d_Cl_removeAt_22 rfl (lv_at hl 0 rfl) ?_
        refine lv_iload_n hx hb d_Cl_removeAt_23 rfl (lv_at hl 2 rfl) ?_
        refine lv_iconst (v := nI 1) hx hb d_Cl_removeAt_24 (by decide) ?_
        refine wi_add hx hb d_Cl_removeAt_25 ?_
        refine ck_v (wc := [(h, .inr (0, [.ref a1, .ref a2, .ref a3, .ref a4, .int (nI (n - 1))])), (a1, .inl (cI, 10, .inl (wA u1))), (a2, .inl (cI, 10, .inl (wA u2))), (a3, .inl (cI, 10, .inl (wA u3))), (a4, .inl (cI, 10, .inl (wA u4)))]) (va_runV (As := [.int (nI k), .ref h, .int (nI (k + 1))]) (rest := []) (C := R_Cl) ⟨hx, hb, hml, hown, ht⟩ (c_Cl_copyAt2 l Hs D cI cZ cL h a1 a2 a3 a4 (n - 1) u1 u2 u3 u4 k (k + 1) (by omega) (by omega) H.size) (gw_V 3 ht wd_137 wd_3 wd_134 wd_136 ws_1 (by decide +kernel) ⟨Nat.le_of_ble_eq_true rfl, Nat.le_of_ble_eq_true rfl⟩) (k_preV hE hAH hK hP hD hS [0, 1, 2, 3, 4] rfl rfl 0 rfl rfl) rfl rfl hl.1 rfl (lv_room (Nat.le_of_ble_eq_true rfl)) d_Cl_removeAt_26 ⟨Nat.le_of_ble_eq_true rfl, Nat.le_of_ble_eq_true rfl⟩) hP hD hS hA [0, 1, 2, 3, 4] rfl rfl (fun w1 H locs hpost hP hD hS => ?_)
        obtain rfl := hpost
        have hP : va_P D kcl [(h, .inr (0, [.ref a1, .ref a2, .ref a3, .ref a4, .int (nI (n - 1))])), (a1, .inl (cI, 10, .inl (wA (va_up u1 k (u1 (k + 1)))))), (a2, .inl (cI, 10, .inl (wA (va_up u2 k (u2 (k + 1)))))), (a3, .inl (cI, 10, .inl (wA (va_up u3 k (u3 (k + 1)))))), (a4, .inl (cI, 10, .inl (wA (va_up u4 k (u4 (k + 1))))))] H := hP
        have hD : va_D A [(h, .inr (0, [.ref a1, .ref a2, .ref a3, .ref a4, .int (nI (n - 1))])), (a1, .inl (cI, 10, .inl (wA (va_up u1 k (u1 (k + 1)))))), (a2, .inl (cI, 10, .inl (wA (va_up u2 k (u2 (k + 1)))))), (a3, .inl (cI, 10, .inl (wA (va_up u3 k (u3 (k + 1)))))), (a4, .inl (cI, 10, .inl (wA (va_up u4 k (u4 (k + 1))))))] := hD
        refine wi_inc (k := 2) (lv' := [(2, .int (nI (k + 1))), (0, .ref h), (1, .int (nI i))]) hx hb d_Cl_removeAt_29 hl rfl (by decide) rfl (fun ls hl => ?_)
        refine lv_goto hx hb d_Cl_removeAt_32 rfl ?_
        exact ih12 (n - (k + 1)) (by omega) (k + 1) (va_up u1 k (u1 (k + 1))) (va_up u2 k (u2 (k + 1))) (va_up u3 k (u3 (k + 1))) (va_up u4 k (u4 (k + 1))) ls H locs rfl (by omega) (by omega) (up_ou hu1 hik) (up_ou hu2 hik) (up_ou hu3 hik) (up_ou hu4 hik) (lv_sub hl [1, 2, 0] rfl) hP hD hS
  exact loop12 _ (i) (f1) (f2) (f3) (f4) ls H locs rfl hi (Nat.le_refl _) ⟨fun t ht => by rw [if_pos ht], fun _ _ => rfl⟩ ⟨fun t ht => by rw [if_pos ht], fun _ _ => rfl⟩ ⟨fun t ht => by rw [if_pos ht], fun _ _ => rfl⟩ ⟨fun t ht => by rw [if_pos ht], fun _ _ => rfl⟩ (lv_sub hl [1, 2, 0] rfl) hP hD hS
set_option maxHeartbeats 4000000 in
set_option maxRecDepth 100000 in
theorem c_Cl_takeTimesFrom (l : Launch) (Hs : Heap) (D : va_G) (cI cZ cL : ClassId) (h : Nat) (a1 : Nat) (a2 : Nat) (a3 : Nat) (a4 : Nat) (o : Nat) (b1 : Nat) (b2 : Nat) (b3 : Nat) (b4 : Nat) (n : Nat) (q : Nat) (f1 : Nat → Nat) (f2 : Nat → Nat) (f3 : Nat → Nat) (f4 : Nat → Nat) (g1 : Nat → Nat) (g2 : Nat → Nat) (g3 : Nat → Nat) (g4 : Nat → Nat) (hn : n ≤ 10) (hq : q ≤ 10) (hf : ∀ t, t < n → f1 t < 2 ^ 31) (hg : ∀ t, t < q → g1 t < 2 ^ 31) : kV l Hs D kcl (ty3 cI cZ cL) y_Cl_takeTimesFrom (mws y_Cl_takeTimesFrom b_Cl_takeTimesFrom 4 (Option.none : Option Jvm.ClassFile.FieldType)) ({ frames := 1, cells := 0, slots := 0, locals := 23 } : Room) [.ref h, .ref o] [(h, .inr (0, [.ref a1, .ref a2, .ref a3, .ref a4, .int (nI n)])), (a1, .inl (cI, 10, .inl (wA f1))), (a2, .inl (cI, 10, .inl (wA f2))), (a3, .inl (cI, 10, .inl (wA f3))), (a4, .inl (cI, 10, .inl (wA f4))), (o, .inr (0, [.ref b1, .ref b2, .ref b3, .ref b4, .int (nI q)])), (b1, .inl (cI, 10, .inl (wA g1))), (b2, .inl (cI, 10, .inl (wA g2))), (b3, .inl (cI, 10, .inl (wA g3))), (b4, .inl (cI, 10, .inl (wA g4)))] (fun w => ∃ (u1 : Nat → Nat), ∃ (u2 : Nat → Nat), ∃ (u3 : Nat → Nat), ∃ (u4 : Nat → Nat), (∀ t, t < n → (∃ i, i < q ∧ g1 i = f1 t ∧ u1 t = g1 i ∧ u2 t = g2 i ∧ u3 t = g3 i ∧ u4 t = g4 i) ∨ ((∀ i, i < q → g1 i ≠ f1 t) ∧ u1 t = f1 t ∧ u2 t = f2 t ∧ u3 t = f3 t ∧ u4 t = f4 t)) ∧ w = [(h, .inr (0, [.ref a1, .ref a2, .ref a3, .ref a4, .int (nI n)])), (a1, .inl (cI, 10, .inl (wA u1))), (a2, .inl (cI, 10, .inl (wA u2))), (a3, .inl (cI, 10, .inl (wA u3))), (a4, .inl (cI, 10, .inl (wA u4))), (o, .inr (0, [.ref b1, .ref b2, .ref b3, .ref b4, .int (nI q)])), (b1, .inl (cI, 10, .inl (wA g1))), (b2, .inl (cI, 10, .inl (wA g2))), (b3, .inl (cI, 10, .inl (wA g3))), (b4, .inl (cI, 10, .inl (wA g4)))]) := by
  intro sz
  refine k_of (cc := b_Cl_takeTimesFrom) (maxL := 4) (ret := (Option.none : Option Jvm.ClassFile.FieldType)) (by decide) rfl (Nat.le_of_ble_eq_true rfl) ?_
  intro p e s m args below meth c ls H locs A Q hQ hx hb hml hr hts hown hlk hnm hsz hAe hP hK hD hS hA hE hAH hl
  have ht : ∀ w ∈ mw, w.before args s = true := fun w h => hts w (List.mem_cons_of_mem _ h)
  have hl : lv_has ls 4 [(0, .ref h), (1, .ref o)] := hl
  refine lv_iconst (v := nI 0) hx hb d_Cl_takeTimesFrom_0 (by decide) ?_
  refine lv_istore_n (lv' := [(2, .int (nI 0)), (0, .ref h), (1, .ref o)]) hx hb d_Cl_takeTimesFrom_1 rfl hl (by decide) rfl (fun ls hl => ?_)
  have loop2 : ∀ (d : Nat) (k : Nat) (u1 : Nat → Nat) (u2 : Nat → Nat) (u3 : Nat → Nat) (u4 : Nat → Nat) (ls : Array Slot) (H : Heap) (locs : List Loc), n - k = d → (k ≤ n) → (∀ t, t < k → (∃ i, i < q ∧ g1 i = f1 t ∧ u1 t = g1 i ∧ u2 t = g2 i ∧ u3 t = g3 i ∧ u4 t = g4 i) ∨ ((∀ i, i < q → g1 i ≠ f1 t) ∧ u1 t = f1 t ∧ u2 t = f2 t ∧ u3 t = f3 t ∧ u4 t = f4 t)) → (∀ t, k ≤ t → u1 t = f1 t ∧ u2 t = f2 t ∧ u3 t = f3 t ∧ u4 t = f4 t) → lv_has ls 4 [(0, .ref h), (1, .ref o), (2, .int (nI k))] → va_P D kcl [(h, .inr (0, [.ref a1, .ref a2, .ref a3, .ref a4, .int (nI n)])), (a1, .inl (cI, 10, .inl (wA u1))), (a2, .inl (cI, 10, .inl (wA u2))), (a3, .inl (cI, 10, .inl (wA u3))), (a4, .inl (cI, 10, .inl (wA u4))), (o, .inr (0, [.ref b1, .ref b2, .ref b3, .ref b4, .int (nI q)])), (b1, .inl (cI, 10, .inl (wA g1))), (b2, .inl (cI, 10, .inl (wA g2))), (b3, .inl (cI, 10, .inl (wA g3))), (b4, .inl (cI, 10, .inl (wA g4)))] H → va_D A [(h, .inr (0, [.ref a1, .ref a2, .ref a3, .ref a4, .int (nI n)])), (a1, .inl (cI, 10, .inl (wA u1))), (a2, .inl (cI, 10, .inl (wA u2))), (a3, .inl (cI, 10, .inl (wA u3))), (a4, .inl (cI, 10, .inl (wA u4))), (o, .inr (0, [.ref b1, .ref b2, .ref b3, .ref b4, .int (nI q)])), (b1, .inl (cI, 10, .inl (wA g1))), (b2, .inl (cI, 10, .inl (wA g2))), (b3, .inl (cI, 10, .inl (wA g3))), (b4, .inl (cI, 10, .inl (wA g4)))] → va_S A s.heap H locs → W p l e ({ frames := 1, cells := 0, slots := 0, locals := 23 } : Room) s m args below meth c H locs 0 0 Q (F0 m 2 ls []) := by
    intro d
    induction d using Nat.strongRecOn with
    | ind d ih2 =>
      intro k u1 u2 u3 u4 ls H locs hd2 hk hdo hun hl hP hD hS
      refine lv_iload_n hx hb d_Cl_takeTimesFrom_2 rfl (lv_at hl 2 rfl) ?_
      refine lv_aload_n hx hb d_Cl_takeTimesFrom_3 rfl (lv_at hl 0 rfl) ?_
      refine va_get (D := D) (ci := 0) (v := .int (nI n)) (C := R_Cl) (T := T_Cl) (N := 5) hx hb ht u_Cl hown hK hP 0 rfl rfl 4 (by decide) (ht _ wd_56) (fun _ h9 => h9) rfl d_Cl_takeTimesFrom_4 ?_
      refine wi_ge hx hb d_Cl_takeTimesFrom_7 rfl (by omega) (by omega) (fun h7 => ?_) (fun h7 => ?_)
      · exact k_retv hQ hx hb hr hlk hAe hK hP hD hS (Nat.le_of_ble_eq_true rfl) (Nat.le_of_ble_eq_true rfl) (Nat.le_of_ble_eq_true rfl) ⟨u1, u2, u3, u4, fun t h9 => hdo t (by omega), rfl⟩ d_Cl_takeTimesFrom_39
      · have huk := hun k (Nat.le_refl k)
        have hfk := hf k h7
        refine lv_aload_n hx hb d_Cl_takeTimesFrom_10 rfl (lv_at hl 1 rfl) ?_
        refine lv_aload_n hx hb d_Cl_takeTimesFrom_11 rfl (lv_at hl 0 rfl) ?_
        refine va_get (D := D) (ci := 0) (v := .ref a1) (C := R_Cl) (T := T_Cl) (N := 5) hx hb ht u_Cl hown hK hP 0 rfl rfl 0 (by decide) (ht _ wd_52) (fun _ h9 => h9) rfl d_Cl_takeTimesFrom_12 ?_
        refine lv_iload_n hx hb d_Cl_takeTimesFrom_15 rfl (lv_at hl 2 rfl) ?_
        refine wi_ald hx hb hK hP 1 0 rfl rfl (by omega) (by omega) d_Cl_takeTimesFrom_16 ?_
        refine ck_i (wc := [(o, .inr (0, [.ref b1, .ref b2, .ref b3, .ref b4, .int (nI q)])), (b1, .inl (cI, 10, .inl (wA g1)))]) (va_runV (As := [.int (nI (u1 k))]) (rest := []) (C := R_Cl) ⟨hx, hb, hml, hown, ht⟩ (c_Cl_find l Hs D cI cZ cL o b1 b2 b3 b4 q g1 (nI (u1 k)) hq H.size) (gw_V 1 ht wd_133 wd_3 wd_130 wd_131 wd_132 (by decide +kernel) ⟨Nat.le_of_ble_eq_true rfl, Nat.le_of_ble_eq_true rfl⟩) (k_preV hE hAH hK hP hD hS [5, 6] rfl rfl 5 rfl rfl) rfl rfl hl.1 rfl (lv_room (Nat.le_of_ble_eq_true rfl)) d_Cl_takeTimesFrom_17 ⟨Nat.le_of_ble_eq_true rfl, Nat.le_of_ble_eq_true rfl⟩) hP hD hS hA [5, 6] rfl rfl (fun r17 w1 H locs hpost hP hD hS => ?_)
        obtain ⟨r0, hfd, rfl, rfl⟩ := hpost
        have hP : va_P D kcl [(h, .inr (0, [.ref a1, .ref a2, .ref a3, .ref a4, .int (nI n)])), (a1, .inl (cI, 10, .inl (wA u1))), (a2, .inl (cI, 10, .inl (wA u2))), (a3, .inl (cI, 10, .inl (wA u3))), (a4, .inl (cI, 10, .inl (wA u4))), (o, .inr (0, [.ref b1, .ref b2, .ref b3, .ref b4, .int (nI q)])), (b1, .inl (cI, 10, .inl (wA g1))), (b2, .inl (cI, 10, .inl (wA g2))), (b3, .inl (cI, 10, .inl (wA g3))), (b4, .inl (cI, 10, .inl (wA g4)))] H := hP
        have hD : va_D A [(h, .inr (0, [.ref a1, .ref a2, .ref a3, .ref a4, .int (nI n)])), (a1, .inl (cI, 10, .inl (wA u1))), (a2, .inl (cI, 10, .inl (wA u2))), (a3, .inl (cI, 10, .inl (wA u3))), (a4, .inl (cI, 10, .inl (wA u4))), (o, .inr (0, [.ref b1, .ref b2, .ref b3, .ref b4, .int (nI q)])), (b1, .inl (cI, 10, .inl (wA g1))), (b2, .inl (cI, 10, .inl (wA g2))), (b3, .inl (cI, 10, .inl (wA g3))), (b4, .inl (cI, 10, .inl (wA g4)))] := hD
        refine lv_istore_n (lv' := [(3, .int r17), (0, .ref h), (1, .ref o), (2, .int (nI k))]) hx hb d_Cl_takeTimesFrom_20 rfl hl (by decide) rfl (fun ls hl => ?_)
        refine lv_iload_n hx hb d_Cl_takeTimesFrom_21 rfl (lv_at hl 0 rfl) ?_
        refine lv_iconst (v := -1) hx hb d_Cl_takeTimesFrom_22 (by decide) ?_
        refine lv_icmp_eq hx hb d_Cl_takeTimesFrom_23 rfl (fun h23 => ?_) (fun h23 => ?_)
        · have hna : ∀ i, i < q → g1 i ≠ f1 k := by
            rcases hfd with ⟨i, hi, -, e, -⟩ | ⟨-, hall⟩
            · rw [h23] at e; exact absurd e (nI_m1 (by omega))
            · intro i hi e; exact hall i hi (by rw [e, huk.1])
          have hdo2 := lt_s hdo (Or.inr ⟨hna, huk⟩)
          have hun2 : ∀ t, k + 1 ≤ t → u1 t = f1 t ∧ u2 t = f2 t ∧ u3 t = f3 t ∧ u4 t = f4 t := fun t h9 => hun t (by omega)
          refine wi_inc (k := 3) (lv' := [(2, .int (nI (k + 1))), (3, .int r17), (0, .ref h), (1, .ref o)]) hx hb d_Cl_takeTimesFrom_33 hl rfl (by decide) rfl (fun ls hl => ?_)
          refine lv_goto hx hb d_Cl_takeTimesFrom_36 rfl ?_
          exact ih2 (n - (k + 1)) (by omega) (k + 1) (u1) (u2) (u3) (u4) ls H locs rfl (by omega) hdo2 hun2 (lv_sub hl [2, 3, 0] rfl) hP hD hS
        · obtain ⟨i, hi, hgi, rfl, hni⟩ := hfd.resolve_right (fun z => h23 z.1)
          have hgi : g1 i = f1 k := by rw [← huk.1]; exact (nI_eq (hg i hi) (by rw [huk.1]; exact hfk)).mp hgi
          have hl : lv_has ls 4 [(3, .int (nI i)), (0, .ref h), (1, .ref o), (2, .int (nI k))] := hl
          refine lv_aload_n hx hb d_Cl_takeTimesFrom_26 rfl (lv_at hl 1 rfl) ?_
          refine lv_iload_n hx hb d_Cl_takeTimesFrom_27 rfl (lv_at hl 3 rfl) ?_
          refine lv_aload_n hx hb d_Cl_takeTimesFrom_28 rfl (lv_at hl 2 rfl) ?_
          refine lv_iload_n hx hb d_Cl_takeTimesFrom_29 rfl (lv_at hl 0 rfl) ?_
          refine ck_v (wc := [(h, .inr (0, [.ref a1, .ref a2, .ref a3, .ref a4, .int (nI n)])), (a1, .inl (cI, 10, .inl (wA u1))), (a2, .inl (cI, 10, .inl (wA u2))), (a3, .inl (cI, 10, .inl (wA u3))), (a4, .inl (cI, 10, .inl (wA u4))), (o, .inr (0, [.ref b1, .ref b2, .ref b3, .ref b4, .int (nI q)])), (b1, .inl (cI, 10, .inl (wA g1))), (b2, .inl (cI, 10, .inl (wA g2))), (b3, .inl (cI, 10, .inl (wA g3))), (b4, .inl (cI, 10, .inl (wA g4)))]) (va_runV (As := [.int (nI k), .ref o, .int (nI i)]) (rest := []) (C := R_Cl) ⟨hx, hb, hml, hown, ht⟩ (c_Cl_copyAt l Hs D cI cZ cL h a1 a2 a3 a4 o b1 b2 b3 b4 n q u1 u2 u3 u4 g1 g2 g3 g4 k i (by omega) (by omega) H.size) (gw_V 3 ht wd_137 wd_3 wd_134 wd_136 ws_1 (by decide +kernel) ⟨Nat.le_of_ble_eq_true rfl, Nat.le_of_ble_eq_true rfl⟩) (k_preV hE hAH hK hP hD hS [0, 1, 2, 3, 4, 5, 6, 7, 8, 9] rfl rfl 0 rfl rfl) rfl rfl hl.1 rfl (lv_room (Nat.le_of_ble_eq_true rfl)) d_Cl_takeTimesFrom_30 ⟨Nat.le_of_ble_eq_true rfl, Nat.le_of_ble_eq_true rfl⟩) hP hD hS hA [0, 1, 2, 3, 4, 5, 6, 7, 8, 9] rfl rfl (fun w1 H locs hpost hP hD hS => ?_)
          obtain rfl := hpost
          have hP : va_P D kcl [(h, .inr (0, [.ref a1, .ref a2, .ref a3, .ref a4, .int (nI n)])), (a1, .inl (cI, 10, .inl (wA (va_up u1 k (g1 i))))), (a2, .inl (cI, 10, .inl (wA (va_up u2 k (g2 i))))), (a3, .inl (cI, 10, .inl (wA (va_up u3 k (g3 i))))), (a4, .inl (cI, 10, .inl (wA (va_up u4 k (g4 i))))), (o, .inr (0, [.ref b1, .ref b2, .ref b3, .ref b4, .int (nI q)])), (b1, .inl (cI, 10, .inl (wA g1))), (b2, .inl (cI, 10, .inl (wA g2))), (b3, .inl (cI, 10, .inl (wA g3))), (b4, .inl (cI, 10, .inl (wA g4)))] H := hP
          have hD : va_D A [(h, .inr (0, [.ref a1, .ref a2, .ref a3, .ref a4, .int (nI n)])), (a1, .inl (cI, 10, .inl (wA (va_up u1 k (g1 i))))), (a2, .inl (cI, 10, .inl (wA (va_up u2 k (g2 i))))), (a3, .inl (cI, 10, .inl (wA (va_up u3 k (g3 i))))), (a4, .inl (cI, 10, .inl (wA (va_up u4 k (g4 i))))), (o, .inr (0, [.ref b1, .ref b2, .ref b3, .ref b4, .int (nI q)])), (b1, .inl (cI, 10, .inl (wA g1))), (b2, .inl (cI, 10, .inl (wA g2))), (b3, .inl (cI, 10, .inl (wA g3))), (b4, .inl (cI, 10, .inl (wA g4)))] := hD
          have hdo2 : ∀ t, t < k + 1 → (∃ x, x < q ∧ g1 x = f1 t ∧ va_up u1 k (g1 i) t = g1 x ∧ va_up u2 k (g2 i) t = g2 x ∧ va_up u3 k (g3 i) t = g3 x ∧ va_up u4 k (g4 i) t = g4 x) ∨ ((∀ i, i < q → g1 i ≠ f1 t) ∧ va_up u1 k (g1 i) t = f1 t ∧ va_up u2 k (g2 i) t = f2 t ∧ va_up u3 k (g3 i) t = f3 t ∧ va_up u4 k (g4 i) t = f4 t) := by
            refine lt_s (fun t ht => ?_) (Or.inl ⟨i, hi, hgi, by rw [va_up_self], by rw [va_up_self], by rw [va_up_self], by rw [va_up_self]⟩)
            have hne : t ≠ k := by omega
            simp only [va_up_ne _ _ hne]
            exact hdo t ht
          have hun2 : ∀ t, k + 1 ≤ t → va_up u1 k (g1 i) t = f1 t ∧ va_up u2 k (g2 i) t = f2 t ∧ va_up u3 k (g3 i) t = f3 t ∧ va_up u4 k (g4 i) t = f4 t := fun t h9 => by
            have hne : t ≠ k := by omega
            simp only [va_up_ne _ _ hne]
            exact hun t (by omega)
          refine wi_inc (k := 3) (lv' := [(2, .int (nI (k + 1))), (3, .int (nI i)), (0, .ref h), (1, .ref o)]) hx hb d_Cl_takeTimesFrom_33 hl rfl (by decide) rfl (fun ls hl => ?_)
          refine lv_goto hx hb d_Cl_takeTimesFrom_36 rfl ?_
          exact ih2 (n - (k + 1)) (by omega) (k + 1) (va_up u1 k (g1 i)) (va_up u2 k (g2 i)) (va_up u3 k (g3 i)) (va_up u4 k (g4 i)) ls H locs rfl (by omega) hdo2 hun2 (lv_sub hl [2, 3, 0] rfl) hP hD hS
  exact loop2 _ (0) (f1) (f2) (f3) (f4) ls H locs rfl (Nat.zero_le _) lt_0 (fun _ _ => ⟨rfl, rfl, rfl, rfl⟩) (lv_sub hl [1, 2, 0] rfl) hP hD hS
set_option maxHeartbeats 4000000 in
set_option maxRecDepth 100000 in
theorem c_Cl_passSlot (l : Launch) (Hs : Heap) (D : va_G) (cI cZ cL : ClassId) (h : Nat) (a1 : Nat) (a2 : Nat) (a3 : Nat) (a4 : Nat) (n : Nat) (f1 : Nat → Nat) (f2 : Nat → Nat) (f3 : Nat → Nat) (f4 : Nat → Nat) (v : Nat) (hn : n ≤ 10) (hv : v < 2 ^ 31) (hf : ∀ t, t < n → f1 t < 2 ^ 31 ∧ f3 t < 2 ^ 30 ∧ f4 t < 2 ^ 30) : kV l Hs D kcl (ty3 cI cZ cL) y_Cl_passSlot (mws y_Cl_passSlot b_Cl_passSlot 3 (Option.none : Option Jvm.ClassFile.FieldType)) ({ frames := 1, cells := 0, slots := 0, locals := 15 } : Room) [.ref h, .int (nI v)] [(h, .inr (0, [.ref a1, .ref a2, .ref a3, .ref a4, .int (nI n)])), (a1, .inl (cI, 10, .inl (wA f1))), (a2, .inl (cI, 10, .inl (wA f2))), (a3, .inl (cI, 10, .inl (wA f3))), (a4, .inl (cI, 10, .inl (wA f4)))] (fun w => ∃ (u3 : Nat → Nat), ∃ (u4 : Nat → Nat), (∀ t, t < n → u3 t = (if f1 t = v then 0 else f3 t + 1) ∧ u4 t = max (f4 t) (if f1 t = v then 0 else f3 t + 1)) ∧ w = [(h, .inr (0, [.ref a1, .ref a2, .ref a3, .ref a4, .int (nI n)])), (a1, .inl (cI, 10, .inl (wA f1))), (a2, .inl (cI, 10, .inl (wA f2))), (a3, .inl (cI, 10, .inl (wA u3))), (a4, .inl (cI, 10, .inl (wA u4)))]) := by
  intro sz
  refine k_of (cc := b_Cl_passSlot) (maxL := 3) (ret := (Option.none : Option Jvm.ClassFile.FieldType)) (by decide) rfl (Nat.le_of_ble_eq_true rfl) ?_
  intro p e s m args below meth c ls H locs A Q hQ hx hb hml hr hts hown hlk hnm hsz hAe hP hK hD hS hA hE hAH hl
  have ht : ∀ w ∈ mw, w.before args s = true := fun w h => hts w (List.mem_cons_of_mem _ h)
  have hl : lv_has ls 3 [(0, .ref h), (1, .int (nI v))] := hl
  refine lv_iconst (v := nI 0) hx hb d_Cl_passSlot_0 (by decide) ?_
  refine lv_istore_n (lv' := [(2, .int (nI 0)), (0, .ref h), (1, .int (nI v))]) hx hb d_Cl_passSlot_1 rfl hl (by decide) rfl (fun ls hl => ?_)
  have loop2 : ∀ (d : Nat) (k : Nat) (u3 : Nat → Nat) (u4 : Nat → Nat) (ls : Array Slot) (H : Heap) (locs : List Loc), n - k = d → (k ≤ n) → (∀ t, t < k → u3 t = (if f1 t = v then 0 else f3 t + 1) ∧ u4 t = max (f4 t) (if f1 t = v then 0 else f3 t + 1)) → (∀ t, k ≤ t → u3 t = f3 t ∧ u4 t = f4 t) → lv_has ls 3 [(0, .ref h), (1, .int (nI v)), (2, .int (nI k))] → va_P D kcl [(h, .inr (0, [.ref a1, .ref a2, .ref a3, .ref a4, .int (nI n)])), (a1, .inl (cI, 10, .inl (wA f1))), (a2, .inl (cI, 10, .inl (wA f2))), (a3, .inl (cI, 10, .inl (wA u3))), (a4, .inl (cI, 10, .inl (wA u4)))] H → va_D A [(h, .inr (0, [.ref a1, .ref a2, .ref a3, .ref a4, .int (nI n)])), (a1, .inl (cI, 10, .inl (wA f1))), (a2, .inl (cI, 10, .inl (wA f2))), (a3, .inl (cI, 10, .inl (wA u3))), (a4, .inl (cI, 10, .inl (wA u4)))] → va_S A s.heap H locs → W p l e ({ frames := 1, cells := 0, slots := 0, locals := 15 } : Room) s m args below meth c H locs 0 0 Q (F0 m 2 ls []) := by
    intro d
    induction d using Nat.strongRecOn with
    | ind d ih2 =>
      intro k u3 u4 ls H locs hd2 hk hdo hun hl hP hD hS
      refine lv_iload_n hx hb d_Cl_passSlot_2 rfl (lv_at hl 2 rfl) ?_
      refine lv_aload_n hx hb d_Cl_passSlot_3 rfl (lv_at hl 0 rfl) ?_
      refine va_get (D := D) (ci := 0) (v := .int (nI n)) (C := R_Cl) (T := T_Cl) (N := 5) hx hb ht u_Cl hown hK hP 0 rfl rfl 4 (by decide) (ht _ wd_56) (fun _ h9 => h9) rfl d_Cl_passSlot_4 ?_
      refine wi_ge hx hb d_Cl_passSlot_7 rfl (by omega) (by omega) (fun h7 => ?_) (fun h7 => ?_)
      · exact k_retv hQ hx hb hr hlk hAe hK hP hD hS (Nat.le_of_ble_eq_true rfl) (Nat.le_of_ble_eq_true rfl) (Nat.le_of_ble_eq_true rfl) ⟨u3, u4, fun t h9 => hdo t (by omega), rfl⟩ d_Cl_passSlot_65
      · have huk := hun k (Nat.le_refl k)
        have hfk := hf k h7
        refine lv_aload_n hx hb d_Cl_passSlot_10 rfl (lv_at hl 0 rfl) ?_
        refine va_get (D := D) (ci := 0) (v := .ref a3) (C := R_Cl) (T := T_Cl) (N := 5) hx hb ht u_Cl hown hK hP 0 rfl rfl 2 (by decide) (ht _ wd_54) (fun _ h9 => h9) rfl d_Cl_passSlot_11 ?_
        refine lv_iload_n hx hb d_Cl_passSlot_14 rfl (lv_at hl 2 rfl) ?_
        refine lv_aload_n hx hb d_Cl_passSlot_15 rfl (lv_at hl 0 rfl) ?_
        refine va_get (D := D) (ci := 0) (v := .ref a1) (C := R_Cl) (T := T_Cl) (N := 5) hx hb ht u_Cl hown hK hP 0 rfl rfl 0 (by decide) (ht _ wd_52) (fun _ h9 => h9) rfl d_Cl_passSlot_16 ?_
        refine lv_iload_n hx hb d_Cl_passSlot_19 rfl (lv_at hl 2 rfl) ?_
        refine wi_ald hx hb hK hP 1 0 rfl rfl (by omega) (by omega) d_Cl_passSlot_20 ?_
        refine lv_iload_n hx hb d_Cl_passSlot_21 rfl (lv_at hl 1 rfl) ?_
        refine wi_ne hx hb d_Cl_passSlot_22 rfl hfk.1 hv (fun h22 => ?_) (fun h22 => ?_)
        · have hdo2 : ∀ t, t < k + 1 → va_up u3 k (u3 k + 1) t = (if f1 t = v then 0 else f3 t + 1) ∧ va_up u4 k (max (u4 k) (va_up u3 k (u3 k + 1) k)) t = max (f4 t) (if f1 t = v then 0 else f3 t + 1) := by
            refine lt_s (fun t ht => ?_) ?_
            · have hne : t ≠ k := by omega
              simp only [va_up_ne _ _ hne]
              exact hdo t ht
            · simp [va_up_self, huk.1, huk.2, h22]
          have hun2 : ∀ t, k + 1 ≤ t → va_up u3 k (u3 k + 1) t = f3 t ∧ va_up u4 k (max (u4 k) (va_up u3 k (u3 k + 1) k)) t = f4 t := fun t h9 => by
            have hne : t ≠ k := by omega
            simp only [va_up_ne _ _ hne]
            exact hun t (by omega)
          refine lv_aload_n hx hb d_Cl_passSlot_29 rfl (lv_at hl 0 rfl) ?_
          refine va_get (D := D) (ci := 0) (v := .ref a3) (C := R_Cl) (T := T_Cl) (N := 5) hx hb ht u_Cl hown hK hP 0 rfl rfl 2 (by decide) (ht _ wd_54) (fun _ h9 => h9) rfl d_Cl_passSlot_30 ?_
          refine lv_iload_n hx hb d_Cl_passSlot_33 rfl (lv_at hl 2 rfl) ?_
          refine wi_ald hx hb hK hP 3 0 rfl rfl (by omega) (by omega) d_Cl_passSlot_34 ?_
          refine lv_iconst (v := nI 1) hx hb d_Cl_passSlot_35 (by decide) ?_
          refine wi_add hx hb d_Cl_passSlot_36 ?_
          refine wi_ast hx hb hK hP hD hS 3 0 rfl rfl (by omega) (by omega) d_Cl_passSlot_37 (fun H locs hP hD hS => ?_)
          have hP : va_P D kcl [(h, .inr (0, [.ref a1, .ref a2, .ref a3, .ref a4, .int (nI n)])), (a1, .inl (cI, 10, .inl (wA f1))), (a2, .inl (cI, 10, .inl (wA f2))), (a3, .inl (cI, 10, .inl (wA (va_up u3 k ((u3 k) + 1))))), (a4, .inl (cI, 10, .inl (wA u4)))] H := hP
          have hD : va_D A [(h, .inr (0, [.ref a1, .ref a2, .ref a3, .ref a4, .int (nI n)])), (a1, .inl (cI, 10, .inl (wA f1))), (a2, .inl (cI, 10, .inl (wA f2))), (a3, .inl (cI, 10, .inl (wA (va_up u3 k ((u3 k) + 1))))), (a4, .inl (cI, 10, .inl (wA u4)))] := hD
          refine lv_aload_n hx hb d_Cl_passSlot_38 rfl (lv_at hl 0 rfl) ?_
          refine va_get (D := D) (ci := 0) (v := .ref a4) (C := R_Cl) (T := T_Cl) (N := 5) hx hb ht u_Cl hown hK hP 0 rfl rfl 3 (by decide) (ht _ wd_55) (fun _ h9 => h9) rfl d_Cl_passSlot_39 ?_
          refine lv_iload_n hx hb d_Cl_passSlot_42 rfl (lv_at hl 2 rfl) ?_
          refine lv_aload_n hx hb d_Cl_passSlot_43 rfl (lv_at hl 0 rfl) ?_
          refine va_get (D := D) (ci := 0) (v := .ref a4) (C := R_Cl) (T := T_Cl) (N := 5) hx hb ht u_Cl hown hK hP 0 rfl rfl 3 (by decide) (ht _ wd_55) (fun _ h9 => h9) rfl d_Cl_passSlot_44 ?_
          refine lv_iload_n hx hb d_Cl_passSlot_47 rfl (lv_at hl 2 rfl) ?_
          refine wi_ald hx hb hK hP 4 0 rfl rfl (by omega) (by omega) d_Cl_passSlot_48 ?_
          refine lv_aload_n hx hb d_Cl_passSlot_49 rfl (lv_at hl 0 rfl) ?_
          refine va_get (D := D) (ci := 0) (v := .ref a3) (C := R_Cl) (T := T_Cl) (N := 5) hx hb ht u_Cl hown hK hP 0 rfl rfl 2 (by decide) (ht _ wd_54) (fun _ h9 => h9) rfl d_Cl_passSlot_50 ?_
          refine lv_iload_n hx hb d_Cl_passSlot_53 rfl (lv_at hl 2 rfl) ?_
          refine wi_ald hx hb hK hP 3 0 rfl rfl (by omega) (by omega) d_Cl_passSlot_54 ?_
          refine va_mmax hx hb (hml.trans hl.1.symm) hown (ht _ wd_183) (ht _ wd_184) (ht _ wd_12) (ht _ wd_185) (Nat.le_of_ble_eq_true rfl) (Nat.le_of_ble_eq_true rfl) (Nat.le_of_ble_eq_true rfl) (Nat.le_of_ble_eq_true rfl) d_Cl_passSlot_55 ?_
          rw [wi_max (by omega) (by have e := va_up_self u3 k; (first | (rw [e 0]; omega) | (rw [e (u3 k + 1)]; omega)))]
          refine wi_ast hx hb hK hP hD hS 4 0 rfl rfl (by omega) (by omega) d_Cl_passSlot_58 (fun H locs hP hD hS => ?_)
          have hP : va_P D kcl [(h, .inr (0, [.ref a1, .ref a2, .ref a3, .ref a4, .int (nI n)])), (a1, .inl (cI, 10, .inl (wA f1))), (a2, .inl (cI, 10, .inl (wA f2))), (a3, .inl (cI, 10, .inl (wA (va_up u3 k ((u3 k) + 1))))), (a4, .inl (cI, 10, .inl (wA (va_up u4 k (max (u4 k) ((va_up u3 k ((u3 k) + 1)) k))))))] H := hP
          have hD : va_D A [(h, .inr (0, [.ref a1, .ref a2, .ref a3, .ref a4, .int (nI n)])), (a1, .inl (cI, 10, .inl (wA f1))), (a2, .inl (cI, 10, .inl (wA f2))), (a3, .inl (cI, 10, .inl (wA (va_up u3 k ((u3 k) + 1))))), (a4, .inl (cI, 10, .inl (wA (va_up u4 k (max (u4 k) ((va_up u3 k ((u3 k) + 1)) k))))))] := hD
          refine wi_inc (k := 2) (lv' := [(2, .int (nI (k + 1))), (0, .ref h), (1, .int (nI v))]) hx hb d_Cl_passSlot_59 hl rfl (by decide) rfl (fun ls hl => ?_)
          refine lv_goto hx hb d_Cl_passSlot_62 rfl ?_
          exact ih2 (n - (k + 1)) (by omega) (k + 1) (va_up u3 k ((u3 k) + 1)) (va_up u4 k (max (u4 k) ((va_up u3 k ((u3 k) + 1)) k))) ls H locs rfl (by omega) hdo2 hun2 (lv_sub hl [1, 2, 0] rfl) hP hD hS
        · have hdo2 : ∀ t, t < k + 1 → va_up u3 k 0 t = (if f1 t = v then 0 else f3 t + 1) ∧ va_up u4 k (max (u4 k) (va_up u3 k 0 k)) t = max (f4 t) (if f1 t = v then 0 else f3 t + 1) := by
            refine lt_s (fun t ht => ?_) ?_
            · have hne : t ≠ k := by omega
              simp only [va_up_ne _ _ hne]
              exact hdo t ht
            · simp [va_up_self, huk.1, huk.2, h22]
          have hun2 : ∀ t, k + 1 ≤ t → va_up u3 k 0 t = f3 t ∧ va_up u4 k (max (u4 k) (va_up u3 k 0 k)) t = f4 t := fun t h9 => by
            have hne : t ≠ k := by omega
            simp only [va_up_ne _ _ hne]
            exact hun t (by omega)
          refine lv_iconst (v := nI 0) hx hb d_Cl_passSlot_25 (by decide) ?_
          refine lv_goto hx hb d_Cl_passSlot_26 rfl ?_
          refine wi_ast hx hb hK hP hD hS 3 0 rfl rfl (by omega) (by omega) d_Cl_passSlot_37 (fun H locs hP hD hS => ?_)
          have hP : va_P D kcl [(h, .inr (0, [.ref a1, .ref a2, .ref a3, .ref a4, .int (nI n)])), (a1, .inl (cI, 10, .inl (wA f1))), (a2, .inl (cI, 10, .inl (wA f2))), (a3, .inl (cI, 10, .inl (wA (va_up u3 k 0)))), (a4, .inl (cI, 10, .inl (wA u4)))] H := hP
          have hD : va_D A [(h, .inr (0, [.ref a1, .ref a2, .ref a3, .ref a4, .int (nI n)])), (a1, .inl (cI, 10, .inl (wA f1))), (a2, .inl (cI, 10, .inl (wA f2))), (a3, .inl (cI, 10, .inl (wA (va_up u3 k 0)))), (a4, .inl (cI, 10, .inl (wA u4)))] := hD
          refine lv_aload_n hx hb d_Cl_passSlot_38 rfl (lv_at hl 0 rfl) ?_
          refine va_get (D := D) (ci := 0) (v := .ref a4) (C := R_Cl) (T := T_Cl) (N := 5) hx hb ht u_Cl hown hK hP 0 rfl rfl 3 (by decide) (ht _ wd_55) (fun _ h9 => h9) rfl d_Cl_passSlot_39 ?_
          refine lv_iload_n hx hb d_Cl_passSlot_42 rfl (lv_at hl 2 rfl) ?_
          refine lv_aload_n hx hb d_Cl_passSlot_43 rfl (lv_at hl 0 rfl) ?_
          refine va_get (D := D) (ci := 0) (v := .ref a4) (C := R_Cl) (T := T_Cl) (N := 5) hx hb ht u_Cl hown hK hP 0 rfl rfl 3 (by decide) (ht _ wd_55) (fun _ h9 => h9) rfl d_Cl_passSlot_44 ?_
          refine lv_iload_n hx hb d_Cl_passSlot_47 rfl (lv_at hl 2 rfl) ?_
          refine wi_ald hx hb hK hP 4 0 rfl rfl (by omega) (by omega) d_Cl_passSlot_48 ?_
          refine lv_aload_n hx hb d_Cl_passSlot_49 rfl (lv_at hl 0 rfl) ?_
          refine va_get (D := D) (ci := 0) (v := .ref a3) (C := R_Cl) (T := T_Cl) (N := 5) hx hb ht u_Cl hown hK hP 0 rfl rfl 2 (by decide) (ht _ wd_54) (fun _ h9 => h9) rfl d_Cl_passSlot_50 ?_
          refine lv_iload_n hx hb d_Cl_passSlot_53 rfl (lv_at hl 2 rfl) ?_
          refine wi_ald hx hb hK hP 3 0 rfl rfl (by omega) (by omega) d_Cl_passSlot_54 ?_
          refine va_mmax hx hb (hml.trans hl.1.symm) hown (ht _ wd_183) (ht _ wd_184) (ht _ wd_12) (ht _ wd_185) (Nat.le_of_ble_eq_true rfl) (Nat.le_of_ble_eq_true rfl) (Nat.le_of_ble_eq_true rfl) (Nat.le_of_ble_eq_true rfl) d_Cl_passSlot_55 ?_
          rw [wi_max (by omega) (by have e := va_up_self u3 k; (first | (rw [e 0]; omega) | (rw [e (u3 k + 1)]; omega)))]
          refine wi_ast hx hb hK hP hD hS 4 0 rfl rfl (by omega) (by omega) d_Cl_passSlot_58 (fun H locs hP hD hS => ?_)
          have hP : va_P D kcl [(h, .inr (0, [.ref a1, .ref a2, .ref a3, .ref a4, .int (nI n)])), (a1, .inl (cI, 10, .inl (wA f1))), (a2, .inl (cI, 10, .inl (wA f2))), (a3, .inl (cI, 10, .inl (wA (va_up u3 k 0)))), (a4, .inl (cI, 10, .inl (wA (va_up u4 k (max (u4 k) ((va_up u3 k 0) k))))))] H := hP
          have hD : va_D A [(h, .inr (0, [.ref a1, .ref a2, .ref a3, .ref a4, .int (nI n)])), (a1, .inl (cI, 10, .inl (wA f1))), (a2, .inl (cI, 10, .inl (wA f2))), (a3, .inl (cI, 10, .inl (wA (va_up u3 k 0)))), (a4, .inl (cI, 10, .inl (wA (va_up u4 k (max (u4 k) ((va_up u3 k 0) k))))))] := hD
          refine wi_inc (k := 2) (lv' := [(2, .int (nI (k + 1))), (0, .ref h), (1, .int (nI v))]) hx hb d_Cl_passSlot_59 hl rfl (by decide) rfl (fun ls hl => ?_)
          refine lv_goto hx hb d_Cl_passSlot_62 rfl ?_
          exact ih2 (n - (k + 1)) (by omega) (k + 1) (va_up u3 k 0) (va_up u4 k (max (u4 k) ((va_up u3 k 0) k))) ls H locs rfl (by omega) hdo2 hun2 (lv_sub hl [1, 2, 0] rfl) hP hD hS
  exact loop2 _ (0) (f3) (f4) ls H locs rfl (Nat.zero_le _) lt_0 (fun _ _ => ⟨rfl, rfl⟩) (lv_sub hl [1, 2, 0] rfl) hP hD hS
end
section
/-! Cycle. -/
def pw_nxt (a L : Nat) : Nat := if a + 1 < L then a + 1 else 0
theorem pw_nxt_mod {a L : Nat} (h : a < L) : pw_nxt a L = (a + 1) % L := by
  unfold pw_nxt
  by_cases e : a + 1 < L
  · rw [if_pos e, Nat.mod_eq_of_lt e]
  · rw [if_neg e, show a + 1 = L by omega, Nat.mod_self]
theorem pw_ff_at {f : Nat → Nat} {L k : Nat} (hk : k < L) (h0 : f k = 0) : pw_ff f (L - k) k = k := by
  rw [show L - k = (L - k - 1) + 1 by omega]
  show (if f k = 0 then k else _) = k
  rw [if_pos h0]
theorem pw_ff_on {f : Nat → Nat} {L k : Nat} (hk : k < L) (h0 : 0 < f k) : pw_ff f (L - k) k = pw_ff f (L - (k + 1)) (k + 1) := by
  rw [show L - k = (L - (k + 1)) + 1 by omega]
  show (if f k = 0 then k else _) = _
  rw [if_neg (by omega)]
theorem pw_ff_end {f : Nat → Nat} {L k : Nat} (hk : L ≤ k) : pw_ff f (L - k) k = k := by
  rw [show L - k = 0 by omega]
  rfl
/-- the places so far -/
def pw_gp (ff k r v : Nat) (f : Nat → Nat) : Nat → Nat := fun j => if ff ≤ j ∧ j < k ∧ (j - ff) % r = 0 then v else f j
theorem pw_gp_0 {ff r v : Nat} {f : Nat → Nat} : f = pw_gp ff ff r v f := by
  funext j
  unfold pw_gp
  rw [if_neg (by omega)]
theorem pw_gp_up {ff k r v : Nat} {f : Nat → Nat} (hr : 0 < r) (hk : ff ≤ k) (hm : (k - ff) % r = 0) : va_up (pw_gp ff k r v f) k v = pw_gp ff (k + r) r v f := by
  funext j
  by_cases e : j = k
  · subst e
    rw [va_up_self]
    unfold pw_gp
    rw [if_pos ⟨hk, by omega, hm⟩]
  · rw [va_up_ne _ _ e]
    unfold pw_gp
    by_cases h : ff ≤ j ∧ j < k ∧ (j - ff) % r = 0
    · rw [if_pos h, if_pos ⟨h.1, by omega, h.2.2⟩]
    · rw [if_neg h, if_neg fun z => h ⟨z.1, ?_, z.2.2⟩]
      by_cases h2 : j < k
      · exact h2
      · exfalso
        obtain ⟨a, ha⟩ := Nat.dvd_of_mod_eq_zero hm
        obtain ⟨b, hb⟩ := Nat.dvd_of_mod_eq_zero z.2.2
        have h3 : r * a < r * b := by omega
        have h4 : r * b < r * (a + 1) := by rw [Nat.mul_succ]; omega
        have h5 := Nat.lt_of_mul_lt_mul_left h3
        have h6 := Nat.lt_of_mul_lt_mul_left h4
        omega
theorem pw_gp_m {ff k r : Nat} (hk : ff ≤ k) (hm : (k - ff) % r = 0) : (k + r - ff) % r = 0 := by
  rw [show k + r - ff = (k - ff) + r by omega, Nat.add_mod_right]
  exact hm
theorem pw_gp_end {ff k r v L : Nat} {f : Nat → Nat} (hff : ff = pw_ff f L 0) (hr : 0 < r) (hk : ff ≤ k) (hm : (k - ff) % r = 0) (hL : L ≤ k) (hl : k = ff ∨ k < L + r) : pw_gp ff k r v f = pw_gv L v r f := by
  funext j
  unfold pw_gp pw_gv
  rw [← hff]
  by_cases h : ff ≤ j ∧ j < L ∧ (j - ff) % r = 0
  · rw [if_pos h, if_pos ⟨h.1, by omega, h.2.2⟩]
  · rw [if_neg h, if_neg fun z => h ⟨z.1, ?_, z.2.2⟩]
    by_cases h2 : j < L
    · exact h2
    · exfalso
      obtain ⟨a, ha⟩ := Nat.dvd_of_mod_eq_zero hm
      obtain ⟨b, hb⟩ := Nat.dvd_of_mod_eq_zero z.2.2
      have h3 : r * b < r * a := by omega
      have h5 := Nat.lt_of_mul_lt_mul_left h3
      have h6 : r * (b + 1) ≤ r * a := Nat.mul_le_mul_left r h5
      rw [Nat.mul_succ] at h6
      omega
theorem wi_sle {a b k : Nat} (ha : a < 2 ^ 30) (hb : b < 2 ^ 30) (hk : k < 2 ^ 30) : nI a - nI b ≤ nI k ↔ a ≤ b + k := by
  rw [Int32.le_iff_toInt_le, pk_sub_toInt ha hb, nI_toInt (by omega)]
  omega
theorem wA_cpy {f g : Nat → Nat} {a d n : Nat} : va_cpy (wA f) (wA g) a d n = wA (va_cpy f g a d n) := by
  funext j
  by_cases h : d ≤ j ∧ j < d + n
  · simp only [va_cpy, wA, if_pos h]
  · simp only [va_cpy, wA, if_neg h]
/-- from p on each client comes in time -/
def pw_sea (n : Nat) (id sp wt : Nat → Nat) (L : Nat) (cy : Nat → Nat) (p : Nat) : Prop := ∀ k, k < n → ∃ d, wt k + d < sp k ∧ cy ((p + d) % L) = id k
set_option maxHeartbeats 4000000 in
set_option maxRecDepth 100000 in
theorem c_Cy_length (l : Launch) (Hs : Heap) (D : va_G) (cI cZ cL : ClassId) (h : Nat) (p0 : Nat) (L : Nat) (b : Nat) : kI l Hs D kcl (ty3 cI cZ cL) y_Cy_length (mws y_Cy_length b_Cy_length 1 (Option.some Jvm.ClassFile.FieldType.int)) ({ frames := 0, cells := 0, slots := 0, locals := 0 } : Room) [.ref h] [(h, .inr (1, [.ref p0, .int (nI L), .int (nI b)]))] (fun r w => r = nI L ∧ w = [(h, .inr (1, [.ref p0, .int (nI L), .int (nI b)]))]) := by
  intro sz
  refine k_of (cc := b_Cy_length) (maxL := 1) (ret := (Option.some Jvm.ClassFile.FieldType.int)) (by decide) rfl (Nat.le_of_ble_eq_true rfl) ?_
  intro p e s m args below meth c ls H locs A Q hQ hx hb hml hr hts hown hlk hnm hsz hAe hP hK hD hS hA hE hAH hl
  have ht : ∀ w ∈ mw, w.before args s = true := fun w h => hts w (List.mem_cons_of_mem _ h)
  have hl : lv_has ls 1 [(0, .ref h)] := hl
  refine lv_aload_n hx hb d_Cy_length_0 rfl (lv_at hl 0 rfl) ?_
  refine va_get (D := D) (ci := 1) (v := .int (nI L)) (C := R_Cy) (T := T_Cy) (N := 3) hx hb ht u_Cy hown hK hP 0 rfl rfl 1 (by decide) (ht _ wd_75) (fun _ h9 => h9) rfl d_Cy_length_1 ?_
  exact k_reti hQ hx hb hr hlk hAe hK hP hD hS (Nat.le_of_ble_eq_true rfl) (Nat.le_of_ble_eq_true rfl) (Nat.le_of_ble_eq_true rfl) ⟨rfl, rfl⟩ d_Cy_length_4
set_option maxHeartbeats 4000000 in
set_option maxRecDepth 100000 in
theorem c_Cy_builder (l : Launch) (Hs : Heap) (D : va_G) (cI cZ cL : ClassId) (h : Nat) (p0 : Nat) (L : Nat) (b : Nat) : kI l Hs D kcl (ty3 cI cZ cL) y_Cy_builder (mws y_Cy_builder b_Cy_builder 1 (Option.some Jvm.ClassFile.FieldType.int)) ({ frames := 0, cells := 0, slots := 0, locals := 0 } : Room) [.ref h] [(h, .inr (1, [.ref p0, .int (nI L), .int (nI b)]))] (fun r w => r = nI b ∧ w = [(h, .inr (1, [.ref p0, .int (nI L), .int (nI b)]))]) := by
  intro sz
  refine k_of (cc := b_Cy_builder) (maxL := 1) (ret := (Option.some Jvm.ClassFile.FieldType.int)) (by decide) rfl (Nat.le_of_ble_eq_true rfl) ?_
  intro p e s m args below meth c ls H locs A Q hQ hx hb hml hr hts hown hlk hnm hsz hAe hP hK hD hS hA hE hAH hl
  have ht : ∀ w ∈ mw, w.before args s = true := fun w h => hts w (List.mem_cons_of_mem _ h)
  have hl : lv_has ls 1 [(0, .ref h)] := hl
  refine lv_aload_n hx hb d_Cy_builder_0 rfl (lv_at hl 0 rfl) ?_
  refine va_get (D := D) (ci := 1) (v := .int (nI b)) (C := R_Cy) (T := T_Cy) (N := 3) hx hb ht u_Cy hown hK hP 0 rfl rfl 2 (by decide) (ht _ wd_76) (fun _ h9 => h9) rfl d_Cy_builder_1 ?_
  exact k_reti hQ hx hb hr hlk hAe hK hP hD hS (Nat.le_of_ble_eq_true rfl) (Nat.le_of_ble_eq_true rfl) (Nat.le_of_ble_eq_true rfl) ⟨rfl, rfl⟩ d_Cy_builder_4
set_option maxHeartbeats 4000000 in
set_option maxRecDepth 100000 in
theorem c_Cy_idAt (l : Launch) (Hs : Heap) (D : va_G) (cI cZ cL : ClassId) (h : Nat) (p0 : Nat) (M : Nat) (f : Nat → Nat) (L : Nat) (b : Nat) (k : Nat) (hk : k < M) (hM : M < 2 ^ 31) : kI l Hs D kcl (ty3 cI cZ cL) y_Cy_idAt (mws y_Cy_idAt b_Cy_idAt 2 (Option.some Jvm.ClassFile.FieldType.int)) ({ frames := 0, cells := 0, slots := 0, locals := 0 } : Room) [.ref h, .int (nI k)] [(h, .inr (1, [.ref p0, .int (nI L), .int (nI b)])), (p0, .inl (cI, M, .inl (wA f)))] (fun r w => r = nI (f k) ∧ w = [(h, .inr (1, [.ref p0, .int (nI L), .int (nI b)])), (p0, .inl (cI, M, .inl (wA f)))]) := by
  intro sz
  refine k_of (cc := b_Cy_idAt) (maxL := 2) (ret := (Option.some Jvm.ClassFile.FieldType.int)) (by decide) rfl (Nat.le_of_ble_eq_true rfl) ?_
  intro p e s m args below meth c ls H locs A Q hQ hx hb hml hr hts hown hlk hnm hsz hAe hP hK hD hS hA hE hAH hl
  have ht : ∀ w ∈ mw, w.before args s = true := fun w h => hts w (List.mem_cons_of_mem _ h)
  have hl : lv_has ls 2 [(0, .ref h), (1, .int (nI k))] := hl
  refine lv_aload_n hx hb d_Cy_idAt_0 rfl (lv_at hl 0 rfl) ?_
  refine va_get (D := D) (ci := 1) (v := .ref p0) (C := R_Cy) (T := T_Cy) (N := 3) hx hb ht u_Cy hown hK hP 0 rfl rfl 0 (by decide) (ht _ wd_74) (fun _ h9 => h9) rfl d_Cy_idAt_1 ?_
  refine lv_iload_n hx hb d_Cy_idAt_4 rfl (lv_at hl 1 rfl) ?_
  refine wi_ald hx hb hK hP 1 0 rfl rfl (by omega) (by omega) d_Cy_idAt_5 ?_
  exact k_reti hQ hx hb hr hlk hAe hK hP hD hS (Nat.le_of_ble_eq_true rfl) (Nat.le_of_ble_eq_true rfl) (Nat.le_of_ble_eq_true rfl) ⟨rfl, rfl⟩ d_Cy_idAt_6
set_option maxHeartbeats 4000000 in
set_option maxRecDepth 100000 in
theorem c_Cy_placeAfter (l : Launch) (Hs : Heap) (D : va_G) (cI cZ cL : ClassId) (h : Nat) (p0 : Nat) (L : Nat) (b : Nat) (k : Nat) (hk : k < 2 ^ 30) (hL : L < 2 ^ 30) : kI l Hs D kcl (ty3 cI cZ cL) y_Cy_placeAfter (mws y_Cy_placeAfter b_Cy_placeAfter 2 (Option.some Jvm.ClassFile.FieldType.int)) ({ frames := 0, cells := 0, slots := 0, locals := 0 } : Room) [.ref h, .int (nI k)] [(h, .inr (1, [.ref p0, .int (nI L), .int (nI b)]))] (fun r w => r = nI (pw_nxt k L) ∧ w = [(h, .inr (1, [.ref p0, .int (nI L), .int (nI b)]))]) := by
  intro sz
  refine k_of (cc := b_Cy_placeAfter) (maxL := 2) (ret := (Option.some Jvm.ClassFile.FieldType.int)) (by decide) rfl (Nat.le_of_ble_eq_true rfl) ?_
  intro p e s m args below meth c ls H locs A Q hQ hx hb hml hr hts hown hlk hnm hsz hAe hP hK hD hS hA hE hAH hl
  have ht : ∀ w ∈ mw, w.before args s = true := fun w h => hts w (List.mem_cons_of_mem _ h)
  have hl : lv_has ls 2 [(0, .ref h), (1, .int (nI k))] := hl
  refine lv_iload_n hx hb d_Cy_placeAfter_0 rfl (lv_at hl 1 rfl) ?_
  refine lv_iconst (v := nI 1) hx hb d_Cy_placeAfter_1 (by decide) ?_
  refine wi_add hx hb d_Cy_placeAfter_2 ?_
  refine lv_aload_n hx hb d_Cy_placeAfter_3 rfl (lv_at hl 0 rfl) ?_
  refine va_get (D := D) (ci := 1) (v := .int (nI L)) (C := R_Cy) (T := T_Cy) (N := 3) hx hb ht u_Cy hown hK hP 0 rfl rfl 1 (by decide) (ht _ wd_75) (fun _ h9 => h9) rfl d_Cy_placeAfter_4 ?_
  refine wi_ge hx hb d_Cy_placeAfter_7 rfl (by omega) (by omega) (fun h7 => ?_) (fun h7 => ?_)
  · refine lv_iconst (v := nI 0) hx hb d_Cy_placeAfter_16 (by decide) ?_
    exact k_reti hQ hx hb hr hlk hAe hK hP hD hS (Nat.le_of_ble_eq_true rfl) (Nat.le_of_ble_eq_true rfl) (Nat.le_of_ble_eq_true rfl) ⟨by rw [pw_nxt, if_neg (by omega)], rfl⟩ d_Cy_placeAfter_17
  · refine lv_iload_n hx hb d_Cy_placeAfter_10 rfl (lv_at hl 1 rfl) ?_
    refine lv_iconst (v := nI 1) hx hb d_Cy_placeAfter_11 (by decide) ?_
    refine wi_add hx hb d_Cy_placeAfter_12 ?_
    refine lv_goto hx hb d_Cy_placeAfter_13 rfl ?_
    exact k_reti hQ hx hb hr hlk hAe hK hP hD hS (Nat.le_of_ble_eq_true rfl) (Nat.le_of_ble_eq_true rfl) (Nat.le_of_ble_eq_true rfl) ⟨by rw [pw_nxt, if_pos (by omega)], rfl⟩ d_Cy_placeAfter_17
set_option maxHeartbeats 4000000 in
set_option maxRecDepth 100000 in
theorem c_Cy_setBuilder (l : Launch) (Hs : Heap) (D : va_G) (cI cZ cL : ClassId) (h : Nat) (p0 : Nat) (L : Nat) (b : Nat) (k : Nat) : kV l Hs D kcl (ty3 cI cZ cL) y_Cy_setBuilder (mws y_Cy_setBuilder b_Cy_setBuilder 2 (Option.none : Option Jvm.ClassFile.FieldType)) ({ frames := 0, cells := 0, slots := 0, locals := 0 } : Room) [.ref h, .int (nI k)] [(h, .inr (1, [.ref p0, .int (nI L), .int (nI b)]))] (fun w => w = [(h, .inr (1, [.ref p0, .int (nI L), .int (nI k)]))]) := by
  intro sz
  refine k_of (cc := b_Cy_setBuilder) (maxL := 2) (ret := (Option.none : Option Jvm.ClassFile.FieldType)) (by decide) rfl (Nat.le_of_ble_eq_true rfl) ?_
  intro p e s m args below meth c ls H locs A Q hQ hx hb hml hr hts hown hlk hnm hsz hAe hP hK hD hS hA hE hAH hl
  have ht : ∀ w ∈ mw, w.before args s = true := fun w h => hts w (List.mem_cons_of_mem _ h)
  have hl : lv_has ls 2 [(0, .ref h), (1, .int (nI k))] := hl
  refine lv_aload_n hx hb d_Cy_setBuilder_0 rfl (lv_at hl 0 rfl) ?_
  refine lv_iload_n hx hb d_Cy_setBuilder_1 rfl (lv_at hl 1 rfl) ?_
  refine va_put (D := D) (ci := 1) (v := .int (nI k)) (ty := .int) (C := R_Cy) (T := T_Cy) (N := 3) hx hb ht u_Cy t_Cy t_Cy_ok n_Cy hown hK hP hD hS 0 rfl rfl 2 (by decide) (ht _ wd_76) (fun _ h9 => h9) rfl (by decide +kernel) rfl rfl (Nat.le_of_ble_eq_true rfl) d_Cy_setBuilder_2 (fun H locs hP hD hS => ?_)
  have hP : va_P D kcl [(h, .inr (1, [.ref p0, .int (nI L), .int (nI k)]))] H := hP
  have hD : va_D A [(h, .inr (1, [.ref p0, .int (nI L), .int (nI k)]))] := hD
  exact k_retv hQ hx hb hr hlk hAe hK hP hD hS (Nat.le_of_ble_eq_true rfl) (Nat.le_of_ble_eq_true rfl) (Nat.le_of_ble_eq_true rfl) rfl d_Cy_setBuilder_5
set_option maxHeartbeats 4000000 in
set_option maxRecDepth 100000 in
theorem c_Cy_init (l : Launch) (Hs : Heap) (D : va_G) (cI cZ cL : ClassId) (h : Nat) : kV l Hs D kcl (ty3 cI cZ cL) y_Cy_init (mws y_Cy_init b_Cy_init 1 (Option.none : Option Jvm.ClassFile.FieldType)) ({ frames := 1, cells := 1, slots := 40, locals := 12 } : Room) [.ref h] [(h, .inr (1, [.null, .int (nI 0), .int (nI 0)]))] (fun w => ∃ (p0 : Nat), w = [(h, .inr (1, [.ref p0, .int (nI 1), .int (nI 0)])), (p0, .inl (cI, 40, .inl (wA (fun _ => 0))))]) := by
  intro sz
  refine k_of (cc := b_Cy_init) (maxL := 1) (ret := (Option.none : Option Jvm.ClassFile.FieldType)) (by decide) rfl (Nat.le_of_ble_eq_true rfl) ?_
  intro p e s m args below meth c ls H locs A Q hQ hx hb hml hr hts hown hlk hnm hsz hAe hP hK hD hS hA hE hAH hl
  have ht : ∀ w ∈ mw, w.before args s = true := fun w h => hts w (List.mem_cons_of_mem _ h)
  have hl : lv_has ls 1 [(0, .ref h)] := hl
  refine lv_aload_n hx hb d_Cy_init_0 rfl (lv_at hl 0 rfl) ?_
  refine W.objInit hx hb hown (ht _ wd_73) (ht _ wd_33) (ht _ wd_34) rfl (by rw [hml]; exact hl.1) rfl d_Cy_init_1 (Nat.le_of_ble_eq_true rfl) (Nat.le_of_ble_eq_true rfl) ?_
  refine W.eq (g2 := F0 m 4 ls []) rfl ?_
  refine lv_aload_n hx hb d_Cy_init_4 rfl (lv_at hl 0 rfl) ?_
  refine lv_bipush (v := nI 40) hx hb d_Cy_init_5 (by decide) ?_
  refine wi_newa (atype := .int) (a0 := (40, .inl (wA (fun _ => 0)))) (N' := 40) hx hb (ht _ wd_45) rfl (by decide) hK hP hD hS hA 0 rfl (fun _ => rfl) (by decide) rfl (by decide) (Nat.le_of_ble_eq_true rfl) (Nat.le_of_ble_eq_true rfl) d_Cy_init_7 (fun q7 H hP hD hS => ?_)
  have hP : va_P D kcl [(h, .inr (1, [.null, .int (nI 0), .int (nI 0)])), (q7, .inl (cI, 40, .inl (wA (fun _ => 0))))] H := hP
  have hD : va_D A [(h, .inr (1, [.null, .int (nI 0), .int (nI 0)])), (q7, .inl (cI, 40, .inl (wA (fun _ => 0))))] := hD
  refine W.widen (k := 1) (n := 40) (by decide) (by decide) ?_
  refine va_put (D := D) (ci := 1) (v := .ref q7) (ty := (.array .int)) (C := R_Cy) (T := T_Cy) (N := 3) hx hb ht u_Cy t_Cy t_Cy_ok n_Cy hown hK hP hD hS 0 rfl rfl 0 (by decide) (ht _ wd_74) (fun _ h9 => h9) rfl (by decide +kernel) rfl rfl (Nat.le_of_ble_eq_true rfl) d_Cy_init_9 (fun H locs hP hD hS => ?_)
  have hP : va_P D kcl [(h, .inr (1, [.ref q7, .int (nI 0), .int (nI 0)])), (q7, .inl (cI, 40, .inl (wA (fun _ => 0))))] H := hP
  have hD : va_D A [(h, .inr (1, [.ref q7, .int (nI 0), .int (nI 0)])), (q7, .inl (cI, 40, .inl (wA (fun _ => 0))))] := hD
  refine lv_aload_n hx hb d_Cy_init_12 rfl (lv_at hl 0 rfl) ?_
  refine lv_iconst (v := nI 1) hx hb d_Cy_init_13 (by decide) ?_
  refine va_put (D := D) (ci := 1) (v := .int (nI 1)) (ty := .int) (C := R_Cy) (T := T_Cy) (N := 3) hx hb ht u_Cy t_Cy t_Cy_ok n_Cy hown hK hP hD hS 0 rfl rfl 1 (by decide) (ht _ wd_75) (fun _ h9 => h9) rfl (by decide +kernel) rfl rfl (Nat.le_of_ble_eq_true rfl) d_Cy_init_14 (fun H locs hP hD hS => ?_)
  have hP : va_P D kcl [(h, .inr (1, [.ref q7, .int (nI 1), .int (nI 0)])), (q7, .inl (cI, 40, .inl (wA (fun _ => 0))))] H := hP
  have hD : va_D A [(h, .inr (1, [.ref q7, .int (nI 1), .int (nI 0)])), (q7, .inl (cI, 40, .inl (wA (fun _ => 0))))] := hD
  refine lv_aload_n hx hb d_Cy_init_17 rfl (lv_at hl 0 rfl) ?_
  refine lv_iconst (v := nI 0) hx hb d_Cy_init_18 (by decide) ?_
  refine va_put (D := D) (ci := 1) (v := .int (nI 0)) (ty := .int) (C := R_Cy) (T := T_Cy) (N := 3) hx hb ht u_Cy t_Cy t_Cy_ok n_Cy hown hK hP hD hS 0 rfl rfl 2 (by decide) (ht _ wd_76) (fun _ h9 => h9) rfl (by decide +kernel) rfl rfl (Nat.le_of_ble_eq_true rfl) d_Cy_init_19 (fun H locs hP hD hS => ?_)
  have hP : va_P D kcl [(h, .inr (1, [.ref q7, .int (nI 1), .int (nI 0)])), (q7, .inl (cI, 40, .inl (wA (fun _ => 0))))] H := hP
  have hD : va_D A [(h, .inr (1, [.ref q7, .int (nI 1), .int (nI 0)])), (q7, .inl (cI, 40, .inl (wA (fun _ => 0))))] := hD
  exact k_retv hQ hx hb hr hlk hAe hK hP hD hS (Nat.le_of_ble_eq_true rfl) (Nat.le_of_ble_eq_true rfl) (Nat.le_of_ble_eq_true rfl) ⟨q7, rfl⟩ d_Cy_init_22
set_option maxHeartbeats 4000000 in
set_option maxRecDepth 100000 in
theorem c_Cy_makeRoom (l : Launch) (Hs : Heap) (D : va_G) (cI cZ cL : ClassId) (h : Nat) (p0 : Nat) (M : Nat) (f : Nat → Nat) (L : Nat) (b : Nat) (k : Nat) (hk : k ≤ 1500) (hM : M ≤ 1500) : kV l Hs D kcl (ty3 cI cZ cL) y_Cy_makeRoom (mws y_Cy_makeRoom b_Cy_makeRoom 2 (Option.none : Option Jvm.ClassFile.FieldType)) ({ frames := 0, cells := 1, slots := 1500, locals := 0 } : Room) [.ref h, .int (nI k)] [(h, .inr (1, [.ref p0, .int (nI L), .int (nI b)])), (p0, .inl (cI, M, .inl (wA f)))] (fun w => ∃ (p2 : Nat), ∃ (M2 : Nat), ∃ (f2 : Nat → Nat), (k ≤ M2) ∧ (M2 ≤ 1500) ∧ (M ≤ M2) ∧ w = [(h, .inr (1, [.ref p2, .int (nI k), .int (nI b)])), (p2, .inl (cI, M2, .inl (wA f2)))]) := by
  intro sz
  refine k_of (cc := b_Cy_makeRoom) (maxL := 2) (ret := (Option.none : Option Jvm.ClassFile.FieldType)) (by decide) rfl (Nat.le_of_ble_eq_true rfl) ?_
  intro p e s m args below meth c ls H locs A Q hQ hx hb hml hr hts hown hlk hnm hsz hAe hP hK hD hS hA hE hAH hl
  have ht : ∀ w ∈ mw, w.before args s = true := fun w h => hts w (List.mem_cons_of_mem _ h)
  have hl : lv_has ls 2 [(0, .ref h), (1, .int (nI k))] := hl
  refine lv_iload_n hx hb d_Cy_makeRoom_0 rfl (lv_at hl 1 rfl) ?_
  refine lv_aload_n hx hb d_Cy_makeRoom_1 rfl (lv_at hl 0 rfl) ?_
  refine va_get (D := D) (ci := 1) (v := .ref p0) (C := R_Cy) (T := T_Cy) (N := 3) hx hb ht u_Cy hown hK hP 0 rfl rfl 0 (by decide) (ht _ wd_74) (fun _ h9 => h9) rfl d_Cy_makeRoom_2 ?_
  refine va_alen (v := nI M) hx hb hK hP 1 0 rfl rfl rfl d_Cy_makeRoom_5 ?_
  refine wi_le hx hb d_Cy_makeRoom_6 rfl (by omega) (by omega) (fun h6 => ?_) (fun h6 => ?_)
  · refine lv_aload_n hx hb d_Cy_makeRoom_16 rfl (lv_at hl 0 rfl) ?_
    refine lv_iload_n hx hb d_Cy_makeRoom_17 rfl (lv_at hl 1 rfl) ?_
    refine va_put (D := D) (ci := 1) (v := .int (nI k)) (ty := .int) (C := R_Cy) (T := T_Cy) (N := 3) hx hb ht u_Cy t_Cy t_Cy_ok n_Cy hown hK hP hD hS 0 rfl rfl 1 (by decide) (ht _ wd_75) (fun _ h9 => h9) rfl (by decide +kernel) rfl rfl (Nat.le_of_ble_eq_true rfl) d_Cy_makeRoom_18 (fun H locs hP hD hS => ?_)
    have hP : va_P D kcl [(h, .inr (1, [.ref p0, .int (nI k), .int (nI b)])), (p0, .inl (cI, M, .inl (wA f)))] H := hP
    have hD : va_D A [(h, .inr (1, [.ref p0, .int (nI k), .int (nI b)])), (p0, .inl (cI, M, .inl (wA f)))] := hD
    exact k_retv hQ hx hb hr hlk hAe hK hP hD hS (Nat.le_of_ble_eq_true rfl) (Nat.le_of_ble_eq_true rfl) (Nat.le_of_ble_eq_true rfl) ⟨p0, M, f, by omega, hM, Nat.le_refl _, rfl⟩ d_Cy_makeRoom_21
  · refine lv_aload_n hx hb d_Cy_makeRoom_9 rfl (lv_at hl 0 rfl) ?_
    refine lv_iload_n hx hb d_Cy_makeRoom_10 rfl (lv_at hl 1 rfl) ?_
    refine wi_newa (atype := .int) (a0 := (k, .inl (wA (fun _ => 0)))) (N' := k) hx hb (ht _ wd_45) rfl (by decide) hK hP hD hS hA 0 rfl (fun _ => rfl) (nI_pos (by omega)) (nI_clamp (by omega)) (show k * 4 ≤ 536870912 by omega) (Nat.le_of_ble_eq_true rfl) (show 0 + k ≤ 1500 by omega) d_Cy_makeRoom_11 (fun q11 H hP hD hS => ?_)
    have hP : va_P D kcl [(h, .inr (1, [.ref p0, .int (nI L), .int (nI b)])), (p0, .inl (cI, M, .inl (wA f))), (q11, .inl (cI, k, .inl (wA (fun _ => 0))))] H := hP
    have hD : va_D A [(h, .inr (1, [.ref p0, .int (nI L), .int (nI b)])), (p0, .inl (cI, M, .inl (wA f))), (q11, .inl (cI, k, .inl (wA (fun _ => 0))))] := hD
    refine W.widen (k := 1) (n := 1500) (by decide) (by omega) ?_
    refine va_put (D := D) (ci := 1) (v := .ref q11) (ty := (.array .int)) (C := R_Cy) (T := T_Cy) (N := 3) hx hb ht u_Cy t_Cy t_Cy_ok n_Cy hown hK hP hD hS 0 rfl rfl 0 (by decide) (ht _ wd_74) (fun _ h9 => h9) rfl (by decide +kernel) rfl rfl (Nat.le_of_ble_eq_true rfl) d_Cy_makeRoom_13 (fun H locs hP hD hS => ?_)
    have hP : va_P D kcl [(h, .inr (1, [.ref q11, .int (nI L), .int (nI b)])), (p0, .inl (cI, M, .inl (wA f))), (q11, .inl (cI, k, .inl (wA (fun _ => 0))))] H := hP
    have hD : va_D A [(h, .inr (1, [.ref q11, .int (nI L), .int (nI b)])), (p0, .inl (cI, M, .inl (wA f))), (q11, .inl (cI, k, .inl (wA (fun _ => 0))))] := hD
    refine lv_aload_n hx hb d_Cy_makeRoom_16 rfl (lv_at hl 0 rfl) ?_
    refine lv_iload_n hx hb d_Cy_makeRoom_17 rfl (lv_at hl 1 rfl) ?_
    refine va_put (D := D) (ci := 1) (v := .int (nI k)) (ty := .int) (C := R_Cy) (T := T_Cy) (N := 3) hx hb ht u_Cy t_Cy t_Cy_ok n_Cy hown hK hP hD hS 0 rfl rfl 1 (by decide) (ht _ wd_75) (fun _ h9 => h9) rfl (by decide +kernel) rfl rfl (Nat.le_of_ble_eq_true rfl) d_Cy_makeRoom_18 (fun H locs hP hD hS => ?_)
    have hP : va_P D kcl [(h, .inr (1, [.ref q11, .int (nI k), .int (nI b)])), (p0, .inl (cI, M, .inl (wA f))), (q11, .inl (cI, k, .inl (wA (fun _ => 0))))] H := hP
    have hD : va_D A [(h, .inr (1, [.ref q11, .int (nI k), .int (nI b)])), (p0, .inl (cI, M, .inl (wA f))), (q11, .inl (cI, k, .inl (wA (fun _ => 0))))] := hD
    have hP := hP.sub (ws' := [(h, .inr (1, [.ref q11, .int (nI k), .int (nI b)])), (q11, .inl (cI, k, .inl (wA (fun _ => 0))))]) [0, 2] rfl
    have hD := hD.sub (ws' := [(h, .inr (1, [.ref q11, .int (nI k), .int (nI b)])), (q11, .inl (cI, k, .inl (wA (fun _ => 0))))]) [0, 2] (by decide) rfl
    exact k_retv hQ hx hb hr hlk hAe hK hP hD hS (Nat.le_of_ble_eq_true rfl) (Nat.le_of_ble_eq_true rfl) (Nat.le_of_ble_eq_true rfl) ⟨q11, k, fun _ => 0, Nat.le_refl _, hk, by omega, rfl⟩ d_Cy_makeRoom_21
set_option maxHeartbeats 4000000 in
set_option maxRecDepth 100000 in
theorem c_Ar_rangeCheck (l : Launch) (Hs : Heap) (D : va_G) (cI cZ cL : ClassId) (n : Nat) (i : Nat) (j : Nat) (hij : i ≤ j) (hjn : j ≤ n) (hn : n < 2 ^ 31) : kV l Hs D kcl (ty3 cI cZ cL) y_Ar_rangeCheck (mws y_Ar_rangeCheck b_Ar_rangeCheck 3 (Option.none : Option Jvm.ClassFile.FieldType)) ({ frames := 0, cells := 0, slots := 0, locals := 0 } : Room) [.int (nI n), .int (nI i), .int (nI j)] [] (fun w => w = []) := by
  intro sz
  refine k_of (cc := b_Ar_rangeCheck) (maxL := 3) (ret := (Option.none : Option Jvm.ClassFile.FieldType)) (by decide) rfl (Nat.le_of_ble_eq_true rfl) ?_
  intro p e s m args below meth c ls H locs A Q hQ hx hb hml hr hts hown hlk hnm hsz hAe hP hK hD hS hA hE hAH hl
  have ht : ∀ w ∈ mw, w.before args s = true := fun w h => hts w (List.mem_cons_of_mem _ h)
  have hl : lv_has ls 3 [(0, .int (nI n)), (1, .int (nI i)), (2, .int (nI j))] := hl
  refine lv_iload_n hx hb d_Ar_rangeCheck_0 rfl (lv_at hl 1 rfl) ?_
  refine lv_iload_n hx hb d_Ar_rangeCheck_1 rfl (lv_at hl 2 rfl) ?_
  refine wi_le hx hb d_Ar_rangeCheck_2 rfl (by omega) (by omega) (fun h2 => ?_) (fun h2 => ?_)
  · refine lv_iload_n hx hb d_Ar_rangeCheck_46 rfl (lv_at hl 1 rfl) ?_
    refine wi_if_ge hx hb d_Ar_rangeCheck_47 rfl (by omega) ?_
    refine lv_iload_n hx hb d_Ar_rangeCheck_59 rfl (lv_at hl 2 rfl) ?_
    refine lv_iload_n hx hb d_Ar_rangeCheck_60 rfl (lv_at hl 0 rfl) ?_
    refine wi_le hx hb d_Ar_rangeCheck_61 rfl (by omega) (by omega) (fun h61 => ?_) (fun h61 => ?_)
    · exact k_retv hQ hx hb hr hlk hAe hK hP hD hS (Nat.le_of_ble_eq_true rfl) (Nat.le_of_ble_eq_true rfl) (Nat.le_of_ble_eq_true rfl) rfl d_Ar_rangeCheck_73
    · exfalso; omega
  · exfalso; omega
set_option maxHeartbeats 4000000 in
set_option maxRecDepth 100000 in
theorem c_Ar_fill (l : Launch) (Hs : Heap) (D : va_G) (cI cZ cL : ClassId) (a : Nat) (n : Nat) (f : Nat → Nat) (i : Nat) (j : Nat) (v : Nat) (hij : i ≤ j) (hjn : j ≤ n) (hn : n < 2 ^ 31) : kV l Hs D kcl (ty3 cI cZ cL) y_Ar_fill (mws y_Ar_fill b_Ar_fill 5 (Option.none : Option Jvm.ClassFile.FieldType)) ({ frames := 1, cells := 0, slots := 0, locals := 22 } : Room) [.ref a, .int (nI i), .int (nI j), .int (nI v)] [(a, .inl (cI, n, .inl (wA f)))] (fun w => ∃ (u : Nat → Nat), (∀ t, i ≤ t → t < j → u t = v) ∧ w = [(a, .inl (cI, n, .inl (wA u)))]) := by
  intro sz
  refine k_of (cc := b_Ar_fill) (maxL := 5) (ret := (Option.none : Option Jvm.ClassFile.FieldType)) (by decide) rfl (Nat.le_of_ble_eq_true rfl) ?_
  intro p e s m args below meth c ls H locs A Q hQ hx hb hml hr hts hown hlk hnm hsz hAe hP hK hD hS hA hE hAH hl
  have ht : ∀ w ∈ mw, w.before args s = true := fun w h => hts w (List.mem_cons_of_mem _ h)
  have hl : lv_has ls 5 [(0, .ref a), (1, .int (nI i)), (2, .int (nI j)), (3, .int (nI v))] := hl
  refine lv_aload_n hx hb d_Ar_fill_0 rfl (lv_at hl 0 rfl) ?_
  refine va_alen (v := nI n) hx hb hK hP 0 0 rfl rfl rfl d_Ar_fill_1 ?_
  refine lv_iload_n hx hb d_Ar_fill_2 rfl (lv_at hl 1 rfl) ?_
  refine lv_iload_n hx hb d_Ar_fill_3 rfl (lv_at hl 2 rfl) ?_
  refine ck_v (wc := []) (va_runS (As := [.int (nI n), .int (nI i), .int (nI j)]) (rest := []) ⟨hx, hb, hml, hown, ht⟩ (c_Ar_rangeCheck l Hs D cI cZ cL n i j hij hjn hn H.size) (gw_S 3 ht wd_433 wd_13 wd_431 wd_432 (by decide +kernel) ⟨Nat.le_of_ble_eq_true rfl, Nat.le_of_ble_eq_true rfl⟩) (k_preS hE hAH hK hP hD hS [] rfl rfl) rfl rfl hl.1 rfl (lv_room (Nat.le_of_ble_eq_true rfl)) d_Ar_fill_4 ⟨Nat.le_of_ble_eq_true rfl, Nat.le_of_ble_eq_true rfl⟩) hP hD hS hA [] rfl rfl (fun w1 H locs hpost hP hD hS => ?_)
  obtain rfl := hpost
  have hP : va_P D kcl [(a, .inl (cI, n, .inl (wA f)))] H := hP
  have hD : va_D A [(a, .inl (cI, n, .inl (wA f)))] := hD
  refine lv_iload_n hx hb d_Ar_fill_7 rfl (lv_at hl 1 rfl) ?_
  refine lv_istore (lv' := [(4, .int (nI i)), (0, .ref a), (1, .int (nI i)), (2, .int (nI j)), (3, .int (nI v))]) hx hb d_Ar_fill_8 hl (by decide) rfl (fun ls hl => ?_)
  have loop10 : ∀ (d : Nat) (k : Nat) (u : Nat → Nat) (ls : Array Slot) (H : Heap) (locs : List Loc), j - k = d → (k ≤ j) → (i ≤ k) → (∀ t, i ≤ t → t < k → u t = v) → lv_has ls 5 [(0, .ref a), (1, .int (nI i)), (2, .int (nI j)), (3, .int (nI v)), (4, .int (nI k))] → va_P D kcl [(a, .inl (cI, n, .inl (wA u)))] H → va_D A [(a, .inl (cI, n, .inl (wA u)))] → va_S A s.heap H locs → W p l e ({ frames := 1, cells := 0, slots := 0, locals := 22 } : Room) s m args below meth c H locs 0 0 Q (F0 m 10 ls []) := by
    intro d
    induction d using Nat.strongRecOn with
    | ind d ih10 =>
      intro k u ls H locs hd10 hk hik hu hl hP hD hS
      refine lv_iload hx hb d_Ar_fill_10 (lv_at hl 4 rfl) ?_
      refine lv_iload_n hx hb d_Ar_fill_12 rfl (lv_at hl 2 rfl) ?_
      refine wi_ge hx hb d_Ar_fill_13 rfl (by omega) (by omega) (fun h13 => ?_) (fun h13 => ?_)
      · exact k_retv hQ hx hb hr hlk hAe hK hP hD hS (Nat.le_of_ble_eq_true rfl) (Nat.le_of_ble_eq_true rfl) (Nat.le_of_ble_eq_true rfl) ⟨u, fun t h1 h2 => hu t h1 (by omega), rfl⟩ d_Ar_fill_27
      · refine lv_aload_n hx hb d_Ar_fill_16 rfl (lv_at hl 0 rfl) ?_
        refine lv_iload hx hb d_Ar_fill_17 (lv_at hl 4 rfl) ?_
        refine lv_iload_n hx hb d_Ar_fill_19 rfl (lv_at hl 3 rfl) ?_
        refine wi_ast hx hb hK hP hD hS 0 0 rfl rfl (by omega) (by omega) d_Ar_fill_20 (fun H locs hP hD hS => ?_)
        have hP : va_P D kcl [(a, .inl (cI, n, .inl (wA (va_up u k v))))] H := hP
        have hD : va_D A [(a, .inl (cI, n, .inl (wA (va_up u k v))))] := hD
        refine wi_inc (k := 4) (lv' := [(4, .int (nI (k + 1))), (0, .ref a), (1, .int (nI i)), (2, .int (nI j)), (3, .int (nI v))]) hx hb d_Ar_fill_21 hl rfl (by decide) rfl (fun ls hl => ?_)
        refine lv_goto hx hb d_Ar_fill_24 rfl ?_
        exact ih10 (j - (k + 1)) (by omega) (k + 1) (va_up u k v) ls H locs rfl (by omega) (by omega) (fun t h1 h2 => by
    by_cases e : t = k
    · rw [e, va_up_self]
    · rw [va_up_ne _ _ e]; exact hu t h1 (by omega)) (lv_sub hl [1, 2, 3, 4, 0] rfl) hP hD hS
  exact loop10 _ (i) (f) ls H locs rfl hij (Nat.le_refl _) (fun t h1 h2 => by omega) (lv_sub hl [1, 2, 3, 4, 0] rfl) hP hD hS
set_option maxHeartbeats 4000000 in
set_option maxRecDepth 100000 in
theorem c_Cy_clear (l : Launch) (Hs : Heap) (D : va_G) (cI cZ cL : ClassId) (h : Nat) (p0 : Nat) (M : Nat) (f : Nat → Nat) (L : Nat) (b : Nat) (k : Nat) (hk : k ≤ 1500) (hM : M ≤ 1500) : kV l Hs D kcl (ty3 cI cZ cL) y_Cy_clear (mws y_Cy_clear b_Cy_clear 2 (Option.none : Option Jvm.ClassFile.FieldType)) ({ frames := 2, cells := 1, slots := 1500, locals := 46 } : Room) [.ref h, .int (nI k)] [(h, .inr (1, [.ref p0, .int (nI L), .int (nI b)])), (p0, .inl (cI, M, .inl (wA f)))] (fun w => ∃ (p2 : Nat), ∃ (M2 : Nat), ∃ (f2 : Nat → Nat), (k ≤ M2) ∧ (M2 ≤ 1500) ∧ (M ≤ M2) ∧ (∀ t, t < k → f2 t = 0) ∧ w = [(h, .inr (1, [.ref p2, .int (nI k), .int (nI b)])), (p2, .inl (cI, M2, .inl (wA f2)))]) := by
  intro sz
  refine k_of (cc := b_Cy_clear) (maxL := 2) (ret := (Option.none : Option Jvm.ClassFile.FieldType)) (by decide) rfl (Nat.le_of_ble_eq_true rfl) ?_
  intro p e s m args below meth c ls H locs A Q hQ hx hb hml hr hts hown hlk hnm hsz hAe hP hK hD hS hA hE hAH hl
  have ht : ∀ w ∈ mw, w.before args s = true := fun w h => hts w (List.mem_cons_of_mem _ h)
  have hl : lv_has ls 2 [(0, .ref h), (1, .int (nI k))] := hl
  refine lv_aload_n hx hb d_Cy_clear_0 rfl (lv_at hl 0 rfl) ?_
  refine lv_iload_n hx hb d_Cy_clear_1 rfl (lv_at hl 1 rfl) ?_
  refine ck_v (wc := [(h, .inr (1, [.ref p0, .int (nI L), .int (nI b)])), (p0, .inl (cI, M, .inl (wA f)))]) (va_runV (As := [.int (nI k)]) (rest := []) (C := R_Cy) ⟨hx, hb, hml, hown, ht⟩ (c_Cy_makeRoom l Hs D cI cZ cL h p0 M f L b k hk hM H.size) (gw_V 1 ht wd_427 wd_4 wd_424 wd_426 ws_19 (by decide +kernel) ⟨Nat.le_of_ble_eq_true rfl, Nat.le_of_ble_eq_true rfl⟩) (k_preV hE hAH hK hP hD hS [0, 1] rfl rfl 0 rfl rfl) rfl rfl hl.1 rfl (lv_room (Nat.le_of_ble_eq_true rfl)) d_Cy_clear_2 ⟨Nat.le_of_ble_eq_true rfl, Nat.le_of_ble_eq_true rfl⟩) hP hD hS hA [0, 1] rfl rfl (fun w1 H locs hpost hP hD hS => ?_)
  obtain ⟨p2, M2, f2, hk2, hM2, hMM, rfl⟩ := hpost
  have hP : va_P D kcl [(h, .inr (1, [.ref p2, .int (nI k), .int (nI b)])), (p2, .inl (cI, M2, .inl (wA f2)))] H := hP
  have hD : va_D A [(h, .inr (1, [.ref p2, .int (nI k), .int (nI b)])), (p2, .inl (cI, M2, .inl (wA f2)))] := hD
  refine W.widen (k := 1) (n := 1500) (by decide) (by decide) ?_
  refine lv_aload_n hx hb d_Cy_clear_5 rfl (lv_at hl 0 rfl) ?_
  refine va_get (D := D) (ci := 1) (v := .ref p2) (C := R_Cy) (T := T_Cy) (N := 3) hx hb ht u_Cy hown hK hP 0 rfl rfl 0 (by decide) (ht _ wd_74) (fun _ h9 => h9) rfl d_Cy_clear_6 ?_
  refine lv_iconst (v := nI 0) hx hb d_Cy_clear_9 (by decide) ?_
  refine lv_aload_n hx hb d_Cy_clear_10 rfl (lv_at hl 0 rfl) ?_
  refine va_get (D := D) (ci := 1) (v := .int (nI k)) (C := R_Cy) (T := T_Cy) (N := 3) hx hb ht u_Cy hown hK hP 0 rfl rfl 1 (by decide) (ht _ wd_75) (fun _ h9 => h9) rfl d_Cy_clear_11 ?_
  refine lv_iconst (v := nI 0) hx hb d_Cy_clear_14 (by decide) ?_
  refine ck_v (wc := [(p2, .inl (cI, M2, .inl (wA f2)))]) (va_runS (As := [.ref p2, .int (nI 0), .int (nI k), .int (nI 0)]) (rest := []) ⟨hx, hb, hml, hown, ht⟩ (c_Ar_fill l Hs D cI cZ cL p2 M2 f2 0 k 0 (Nat.zero_le _) hk2 (by omega) H.size) (gw_S 4 ht wd_430 wd_13 wd_428 wd_429 (by decide +kernel) ⟨Nat.le_of_ble_eq_true rfl, Nat.le_of_ble_eq_true rfl⟩) (k_preS hE hAH hK hP hD hS [1] rfl rfl) rfl rfl hl.1 rfl (lv_room (Nat.le_of_ble_eq_true rfl)) d_Cy_clear_15 ⟨Nat.le_of_ble_eq_true rfl, Nat.le_of_ble_eq_true rfl⟩) hP hD hS hA [1] rfl rfl (fun w1 H locs hpost hP hD hS => ?_)
  obtain ⟨u, hu, rfl⟩ := hpost
  have hP : va_P D kcl [(h, .inr (1, [.ref p2, .int (nI k), .int (nI b)])), (p2, .inl (cI, M2, .inl (wA u)))] H := hP
  have hD : va_D A [(h, .inr (1, [.ref p2, .int (nI k), .int (nI b)])), (p2, .inl (cI, M2, .inl (wA u)))] := hD
  exact k_retv hQ hx hb hr hlk hAe hK hP hD hS (Nat.le_of_ble_eq_true rfl) (Nat.le_of_ble_eq_true rfl) (Nat.le_of_ble_eq_true rfl) ⟨p2, M2, u, hk2, hM2, hMM, fun t h9 => hu t (Nat.zero_le _) h9, rfl⟩ d_Cy_clear_18
set_option maxHeartbeats 4000000 in
set_option maxRecDepth 100000 in
theorem c_Cy_firstFree (l : Launch) (Hs : Heap) (D : va_G) (cI cZ cL : ClassId) (h : Nat) (p0 : Nat) (M : Nat) (f : Nat → Nat) (L : Nat) (b : Nat) (hM : L ≤ M) (hM2 : M ≤ 1500) (hf : ∀ t, t < L → f t < 2 ^ 31) : kI l Hs D kcl (ty3 cI cZ cL) y_Cy_firstFree (mws y_Cy_firstFree b_Cy_firstFree 2 (Option.some Jvm.ClassFile.FieldType.int)) ({ frames := 0, cells := 0, slots := 0, locals := 0 } : Room) [.ref h] [(h, .inr (1, [.ref p0, .int (nI L), .int (nI b)])), (p0, .inl (cI, M, .inl (wA f)))] (fun r w => r = nI (pw_ff f L 0) ∧ w = [(h, .inr (1, [.ref p0, .int (nI L), .int (nI b)])), (p0, .inl (cI, M, .inl (wA f)))]) := by
  intro sz
  refine k_of (cc := b_Cy_firstFree) (maxL := 2) (ret := (Option.some Jvm.ClassFile.FieldType.int)) (by decide) rfl (Nat.le_of_ble_eq_true rfl) ?_
  intro p e s m args below meth c ls H locs A Q hQ hx hb hml hr hts hown hlk hnm hsz hAe hP hK hD hS hA hE hAH hl
  have ht : ∀ w ∈ mw, w.before args s = true := fun w h => hts w (List.mem_cons_of_mem _ h)
  have hl : lv_has ls 2 [(0, .ref h)] := hl
  refine lv_iconst (v := nI 0) hx hb d_Cy_firstFree_0 (by decide) ?_
  refine lv_istore_n (lv' := [(1, .int (nI 0)), (0, .ref h)]) hx hb d_Cy_firstFree_1 rfl hl (by decide) rfl (fun ls hl => ?_)
  have loop2 : ∀ (d : Nat) (k : Nat) (ls : Array Slot) (H : Heap) (locs : List Loc), L - k = d → (k ≤ L) → (pw_ff f L 0 = pw_ff f (L - k) k) → lv_has ls 2 [(0, .ref h), (1, .int (nI k))] → va_P D kcl [(h, .inr (1, [.ref p0, .int (nI L), .int (nI b)])), (p0, .inl (cI, M, .inl (wA f)))] H → va_D A [(h, .inr (1, [.ref p0, .int (nI L), .int (nI b)])), (p0, .inl (cI, M, .inl (wA f)))] → va_S A s.heap H locs → W p l e ({ frames := 0, cells := 0, slots := 0, locals := 0 } : Room) s m args below meth c H locs 0 0 Q (F0 m 2 ls []) := by
    intro d
    induction d using Nat.strongRecOn with
    | ind d ih2 =>
      intro k ls H locs hd2 hk hff hl hP hD hS
      refine lv_iload_n hx hb d_Cy_firstFree_2 rfl (lv_at hl 1 rfl) ?_
      refine lv_aload_n hx hb d_Cy_firstFree_3 rfl (lv_at hl 0 rfl) ?_
      refine va_get (D := D) (ci := 1) (v := .int (nI L)) (C := R_Cy) (T := T_Cy) (N := 3) hx hb ht u_Cy hown hK hP 0 rfl rfl 1 (by decide) (ht _ wd_75) (fun _ h9 => h9) rfl d_Cy_firstFree_4 ?_
      refine wi_ge hx hb d_Cy_firstFree_7 rfl (by omega) (by omega) (fun h7 => ?_) (fun h7 => ?_)
      · refine lv_iload_n hx hb d_Cy_firstFree_25 rfl (lv_at hl 1 rfl) ?_
        exact k_reti hQ hx hb hr hlk hAe hK hP hD hS (Nat.le_of_ble_eq_true rfl) (Nat.le_of_ble_eq_true rfl) (Nat.le_of_ble_eq_true rfl) ⟨by rw [hff, pw_ff_end h7], rfl⟩ d_Cy_firstFree_26
      · refine lv_aload_n hx hb d_Cy_firstFree_10 rfl (lv_at hl 0 rfl) ?_
        refine va_get (D := D) (ci := 1) (v := .ref p0) (C := R_Cy) (T := T_Cy) (N := 3) hx hb ht u_Cy hown hK hP 0 rfl rfl 0 (by decide) (ht _ wd_74) (fun _ h9 => h9) rfl d_Cy_firstFree_11 ?_
        refine lv_iload_n hx hb d_Cy_firstFree_14 rfl (lv_at hl 1 rfl) ?_
        refine wi_ald hx hb hK hP 1 0 rfl rfl (by omega) (by omega) d_Cy_firstFree_15 ?_
        refine wi_if_eq hx hb d_Cy_firstFree_16 rfl (hf k h7) (fun h16 => ?_) (fun h16 => ?_)
        · refine lv_iload_n hx hb d_Cy_firstFree_25 rfl (lv_at hl 1 rfl) ?_
          exact k_reti hQ hx hb hr hlk hAe hK hP hD hS (Nat.le_of_ble_eq_true rfl) (Nat.le_of_ble_eq_true rfl) (Nat.le_of_ble_eq_true rfl) ⟨by rw [hff, pw_ff_at h7 h16], rfl⟩ d_Cy_firstFree_26
        · refine wi_inc (k := 1) (lv' := [(1, .int (nI (k + 1))), (0, .ref h)]) hx hb d_Cy_firstFree_19 hl rfl (by decide) rfl (fun ls hl => ?_)
          refine lv_goto hx hb d_Cy_firstFree_22 rfl ?_
          exact ih2 (L - (k + 1)) (by omega) (k + 1) ls H locs rfl (by omega) (hff.trans (pw_ff_on h7 h16)) (lv_sub hl [1, 0] rfl) hP hD hS
  exact loop2 _ (0) ls H locs rfl (Nat.zero_le _) rfl (lv_sub hl [1, 0] rfl) hP hD hS
set_option maxHeartbeats 4000000 in
set_option maxRecDepth 100000 in
theorem c_Cy_giveTo (l : Launch) (Hs : Heap) (D : va_G) (cI cZ cL : ClassId) (h : Nat) (p0 : Nat) (M : Nat) (f : Nat → Nat) (L : Nat) (b : Nat) (v : Nat) (r : Nat) (hM : L ≤ M) (hM2 : M ≤ 1500) (hf : ∀ t, t < L → f t < 2 ^ 31) (hr0 : 0 < r) (hr1 : r ≤ 1500) : kV l Hs D kcl (ty3 cI cZ cL) y_Cy_giveTo (mws y_Cy_giveTo b_Cy_giveTo 4 (Option.none : Option Jvm.ClassFile.FieldType)) ({ frames := 1, cells := 0, slots := 0, locals := 21 } : Room) [.ref h, .int (nI v), .int (nI r)] [(h, .inr (1, [.ref p0, .int (nI L), .int (nI b)])), (p0, .inl (cI, M, .inl (wA f)))] (fun w => w = [(h, .inr (1, [.ref p0, .int (nI L), .int (nI b)])), (p0, .inl (cI, M, .inl (wA (pw_gv L v r f))))]) := by
  intro sz
  refine k_of (cc := b_Cy_giveTo) (maxL := 4) (ret := (Option.none : Option Jvm.ClassFile.FieldType)) (by decide) rfl (Nat.le_of_ble_eq_true rfl) ?_
  intro p e s m args below meth c ls H locs A Q hQ hx hb hml hr hts hown hlk hnm hsz hAe hP hK hD hS hA hE hAH hl
  have ht : ∀ w ∈ mw, w.before args s = true := fun w h => hts w (List.mem_cons_of_mem _ h)
  have hl : lv_has ls 4 [(0, .ref h), (1, .int (nI v)), (2, .int (nI r))] := hl
  refine lv_aload_n hx hb d_Cy_giveTo_0 rfl (lv_at hl 0 rfl) ?_
  refine ck_i (wc := [(h, .inr (1, [.ref p0, .int (nI L), .int (nI b)])), (p0, .inl (cI, M, .inl (wA f)))]) (va_runV (As := []) (rest := []) (C := R_Cy) ⟨hx, hb, hml, hown, ht⟩ (c_Cy_firstFree l Hs D cI cZ cL h p0 M f L b hM hM2 hf H.size) (gw_V 0 ht wd_720 wd_4 wd_717 wd_719 ws_21 (by decide +kernel) ⟨Nat.le_of_ble_eq_true rfl, Nat.le_of_ble_eq_true rfl⟩) (k_preV hE hAH hK hP hD hS [0, 1] rfl rfl 0 rfl rfl) rfl rfl hl.1 rfl (lv_room (Nat.le_of_ble_eq_true rfl)) d_Cy_giveTo_1 ⟨Nat.le_of_ble_eq_true rfl, Nat.le_of_ble_eq_true rfl⟩) hP hD hS hA [0, 1] rfl rfl (fun r1 w1 H locs hpost hP hD hS => ?_)
  obtain ⟨rfl, rfl⟩ := hpost
  have hP : va_P D kcl [(h, .inr (1, [.ref p0, .int (nI L), .int (nI b)])), (p0, .inl (cI, M, .inl (wA f)))] H := hP
  have hD : va_D A [(h, .inr (1, [.ref p0, .int (nI L), .int (nI b)])), (p0, .inl (cI, M, .inl (wA f)))] := hD
  generalize hffe : pw_ff f L 0 = ff
  have hffl : ff ≤ L := by have := (pw_ff_spec f L 0).2.1; omega
  refine lv_istore_n (lv' := [(3, .int (nI ff)), (0, .ref h), (1, .int (nI v)), (2, .int (nI r))]) hx hb d_Cy_giveTo_4 rfl hl (by decide) rfl (fun ls hl => ?_)
  have loop5 : ∀ (d : Nat) (k : Nat) (u : Nat → Nat) (ls : Array Slot) (H : Heap) (locs : List Loc), L + r - k = d → (ff ≤ k) → ((k - ff) % r = 0) → (k = ff ∨ k < L + r) → (u = pw_gp ff k r v f) → lv_has ls 4 [(0, .ref h), (1, .int (nI v)), (2, .int (nI r)), (3, .int (nI k))] → va_P D kcl [(h, .inr (1, [.ref p0, .int (nI L), .int (nI b)])), (p0, .inl (cI, M, .inl (wA u)))] H → va_D A [(h, .inr (1, [.ref p0, .int (nI L), .int (nI b)])), (p0, .inl (cI, M, .inl (wA u)))] → va_S A s.heap H locs → W p l e ({ frames := 1, cells := 0, slots := 0, locals := 21 } : Room) s m args below meth c H locs 0 0 Q (F0 m 5 ls []) := by
    intro d
    induction d using Nat.strongRecOn with
    | ind d ih5 =>
      intro k u ls H locs hd5 hk hm hl2 hu hl hP hD hS
      refine lv_iload_n hx hb d_Cy_giveTo_5 rfl (lv_at hl 2 rfl) ?_
      refine wi_if_le hx hb d_Cy_giveTo_6 rfl (by omega) (fun h6 => ?_) (fun h6 => ?_)
      · exfalso; omega
      · refine lv_iload_n hx hb d_Cy_giveTo_9 rfl (lv_at hl 3 rfl) ?_
        refine lv_aload_n hx hb d_Cy_giveTo_10 rfl (lv_at hl 0 rfl) ?_
        refine va_get (D := D) (ci := 1) (v := .int (nI L)) (C := R_Cy) (T := T_Cy) (N := 3) hx hb ht u_Cy hown hK hP 0 rfl rfl 1 (by decide) (ht _ wd_75) (fun _ h9 => h9) rfl d_Cy_giveTo_11 ?_
        refine wi_ge hx hb d_Cy_giveTo_14 rfl (by omega) (by omega) (fun h14 => ?_) (fun h14 => ?_)
        · have hu2 : u = pw_gv L v r f := by rw [hu]; exact pw_gp_end hffe.symm hr0 hk hm (by omega) hl2
          subst hu2
          exact k_retv hQ hx hb hr hlk hAe hK hP hD hS (Nat.le_of_ble_eq_true rfl) (Nat.le_of_ble_eq_true rfl) (Nat.le_of_ble_eq_true rfl) rfl d_Cy_giveTo_31
        · refine lv_aload_n hx hb d_Cy_giveTo_17 rfl (lv_at hl 0 rfl) ?_
          refine va_get (D := D) (ci := 1) (v := .ref p0) (C := R_Cy) (T := T_Cy) (N := 3) hx hb ht u_Cy hown hK hP 0 rfl rfl 0 (by decide) (ht _ wd_74) (fun _ h9 => h9) rfl d_Cy_giveTo_18 ?_
          refine lv_iload_n hx hb d_Cy_giveTo_21 rfl (lv_at hl 3 rfl) ?_
          refine lv_iload_n hx hb d_Cy_giveTo_22 rfl (lv_at hl 1 rfl) ?_
          refine wi_ast hx hb hK hP hD hS 1 0 rfl rfl (by omega) (by omega) d_Cy_giveTo_23 (fun H locs hP hD hS => ?_)
          have hP : va_P D kcl [(h, .inr (1, [.ref p0, .int (nI L), .int (nI b)])), (p0, .inl (cI, M, .inl (wA (va_up u k v))))] H := hP
          have hD : va_D A [(h, .inr (1, [.ref p0, .int (nI L), .int (nI b)])), (p0, .inl (cI, M, .inl (wA (va_up u k v))))] := hD
          refine lv_iload_n hx hb d_Cy_giveTo_24 rfl (lv_at hl 3 rfl) ?_
          refine lv_iload_n hx hb d_Cy_giveTo_25 rfl (lv_at hl 2 rfl) ?_
          refine wi_add hx hb d_Cy_giveTo_26 ?_
          refine lv_istore_n (lv' := [(3, .int (nI (k + r))), (0, .ref h), (1, .int (nI v)), (2, .int (nI r))]) hx hb d_Cy_giveTo_27 rfl hl (by decide) rfl (fun ls hl => ?_)
          refine lv_goto hx hb d_Cy_giveTo_28 rfl ?_
          exact ih5 (L + r - (k + r)) (by omega) (k + r) (va_up u k v) ls H locs rfl (by omega) (pw_gp_m hk hm) (by omega) (by rw [hu]; exact pw_gp_up hr0 hk hm) (lv_sub hl [1, 2, 3, 0] rfl) hP hD hS
  exact loop5 _ (ff) (f) ls H locs rfl (Nat.le_refl _) (by rw [Nat.sub_self, Nat.zero_mod]) (Or.inl rfl) pw_gp_0 (lv_sub hl [1, 2, 3, 0] rfl) hP hD hS
end
section
set_option maxHeartbeats 4000000 in
set_option maxRecDepth 100000 in
theorem c_Cy_copyFrom (l : Launch) (Hs : Heap) (D : va_G) (cI cZ cL : ClassId) (h : Nat) (p0 : Nat) (M : Nat) (f : Nat → Nat) (L : Nat) (b : Nat) (a : Nat) (g : Nat → Nat) (i : Nat) (k : Nat) (hk : i + k ≤ 1500) (hM : M ≤ 1500) : kV l Hs D kcl (ty3 cI cZ cL) y_Cy_copyFrom (mws y_Cy_copyFrom b_Cy_copyFrom 4 (Option.none : Option Jvm.ClassFile.FieldType)) ({ frames := 1, cells := 1, slots := 1500, locals := 40 } : Room) [.ref h, .ref a, .int (nI i), .int (nI k)] [(h, .inr (1, [.ref p0, .int (nI L), .int (nI b)])), (p0, .inl (cI, M, .inl (wA f))), (a, .inl (cI, 1500, .inl (wA g)))] (fun w => ∃ (p2 : Nat), ∃ (M2 : Nat), ∃ (f2 : Nat → Nat), (k ≤ M2) ∧ (M2 ≤ 1500) ∧ (M ≤ M2) ∧ (∀ t, t < k → f2 t = g (i + t)) ∧ w = [(h, .inr (1, [.ref p2, .int (nI k), .int (nI b)])), (p2, .inl (cI, M2, .inl (wA f2))), (a, .inl (cI, 1500, .inl (wA g)))]) := by
  intro sz
  refine k_of (cc := b_Cy_copyFrom) (maxL := 4) (ret := (Option.none : Option Jvm.ClassFile.FieldType)) (by decide) rfl (Nat.le_of_ble_eq_true rfl) ?_
  intro p e s m args below meth c ls H locs A Q hQ hx hb hml hr hts hown hlk hnm hsz hAe hP hK hD hS hA hE hAH hl
  have ht : ∀ w ∈ mw, w.before args s = true := fun w h => hts w (List.mem_cons_of_mem _ h)
  have hl : lv_has ls 4 [(0, .ref h), (1, .ref a), (2, .int (nI i)), (3, .int (nI k))] := hl
  refine lv_aload_n hx hb d_Cy_copyFrom_0 rfl (lv_at hl 0 rfl) ?_
  refine lv_iload_n hx hb d_Cy_copyFrom_1 rfl (lv_at hl 3 rfl) ?_
  refine ck_v (wc := [(h, .inr (1, [.ref p0, .int (nI L), .int (nI b)])), (p0, .inl (cI, M, .inl (wA f)))]) (va_runV (As := [.int (nI k)]) (rest := []) (C := R_Cy) ⟨hx, hb, hml, hown, ht⟩ (c_Cy_makeRoom l Hs D cI cZ cL h p0 M f L b k (by omega) hM H.size) (gw_V 1 ht wd_427 wd_4 wd_424 wd_426 ws_19 (by decide +kernel) ⟨Nat.le_of_ble_eq_true rfl, Nat.le_of_ble_eq_true rfl⟩) (k_preV hE hAH hK hP hD hS [0, 1] rfl rfl 0 rfl rfl) rfl rfl hl.1 rfl (lv_room (Nat.le_of_ble_eq_true rfl)) d_Cy_copyFrom_2 ⟨Nat.le_of_ble_eq_true rfl, Nat.le_of_ble_eq_true rfl⟩) hP hD hS hA [0, 1] rfl rfl (fun w1 H locs hpost hP hD hS => ?_)
  obtain ⟨p2, M2, f2, hk2, hM2, hMM, rfl⟩ := hpost
  have hP : va_P D kcl [(h, .inr (1, [.ref p2, .int (nI k), .int (nI b)])), (p2, .inl (cI, M2, .inl (wA f2))), (a, .inl (cI, 1500, .inl (wA g)))] H := hP
  have hD : va_D A [(h, .inr (1, [.ref p2, .int (nI k), .int (nI b)])), (p2, .inl (cI, M2, .inl (wA f2))), (a, .inl (cI, 1500, .inl (wA g)))] := hD
  refine W.widen (k := 1) (n := 1500) (by decide) (by decide) ?_
  refine lv_aload_n hx hb d_Cy_copyFrom_5 rfl (lv_at hl 1 rfl) ?_
  refine lv_iload_n hx hb d_Cy_copyFrom_6 rfl (lv_at hl 2 rfl) ?_
  refine lv_aload_n hx hb d_Cy_copyFrom_7 rfl (lv_at hl 0 rfl) ?_
  refine va_get (D := D) (ci := 1) (v := .ref p2) (C := R_Cy) (T := T_Cy) (N := 3) hx hb ht u_Cy hown hK hP 0 rfl rfl 0 (by decide) (ht _ wd_74) (fun _ h9 => h9) rfl d_Cy_copyFrom_8 ?_
  refine lv_iconst (v := nI 0) hx hb d_Cy_copyFrom_11 (by decide) ?_
  refine lv_aload_n hx hb d_Cy_copyFrom_12 rfl (lv_at hl 0 rfl) ?_
  refine va_get (D := D) (ci := 1) (v := .int (nI k)) (C := R_Cy) (T := T_Cy) (N := 3) hx hb ht u_Cy hown hK hP 0 rfl rfl 1 (by decide) (ht _ wd_75) (fun _ h9 => h9) rfl d_Cy_copyFrom_13 ?_
  refine va_copyi hx hb (hml.trans hl.1.symm) hown (ht _ wd_759) (ht _ wd_511) (ht _ wd_510) (ht _ wd_19) hK hP hD hS 2 1 0 0 rfl rfl rfl rfl rfl (nI_pos (by omega)) (nI_pos (by omega)) (nI_pos (by omega)) (by rw [nI_clamp (by omega), nI_clamp (by omega)]; omega) (by rw [nI_clamp (by omega), nI_clamp (by omega)]; omega) (fun _ _ => rfl) (Nat.le_of_ble_eq_true rfl) (Nat.le_of_ble_eq_true rfl) d_Cy_copyFrom_16 (fun H locs hP hD hS => ?_)
  rw [nI_clamp (by omega), nI_clamp (by omega), nI_clamp (by omega), wA_cpy] at hP hD
  have hP : va_P D kcl [(h, .inr (1, [.ref p2, .int (nI k), .int (nI b)])), (p2, .inl (cI, M2, .inl (wA (va_cpy g f2 i 0 k)))), (a, .inl (cI, 1500, .inl (wA g)))] H := hP
  have hD : va_D A [(h, .inr (1, [.ref p2, .int (nI k), .int (nI b)])), (p2, .inl (cI, M2, .inl (wA (va_cpy g f2 i 0 k)))), (a, .inl (cI, 1500, .inl (wA g)))] := hD
  exact k_retv hQ hx hb hr hlk hAe hK hP hD hS (Nat.le_of_ble_eq_true rfl) (Nat.le_of_ble_eq_true rfl) (Nat.le_of_ble_eq_true rfl) ⟨p2, M2, va_cpy g f2 i 0 k, hk2, hM2, hMM, fun t h9 => by rw [pk_cpy_in (Nat.zero_le _) (by omega), Nat.sub_zero], rfl⟩ d_Cy_copyFrom_19
set_option maxHeartbeats 4000000 in
set_option maxRecDepth 100000 in
theorem c_Cy_comesWithin (l : Launch) (Hs : Heap) (D : va_G) (cI cZ cL : ClassId) (h : Nat) (p0 : Nat) (M : Nat) (f : Nat → Nat) (L : Nat) (b : Nat) (a2 : Nat) (b2 : Nat) (i : Nat) (v : Nat) (hL : i < L) (hM : L ≤ M) (hM2 : M ≤ 1500) (ha : a2 ≤ 40) (hb2 : b2 < 2 ^ 20) (hv : v < 2 ^ 31) (hf : ∀ t, t < L → f t < 2 ^ 31) : kI l Hs D kcl (ty3 cI cZ cL) y_Cy_comesWithin (mws y_Cy_comesWithin b_Cy_comesWithin 6 (Option.some Jvm.ClassFile.FieldType.boolean)) ({ frames := 1, cells := 0, slots := 0, locals := 21 } : Room) [.ref h, .int (nI a2 - nI b2), .int (nI i), .int (nI v)] [(h, .inr (1, [.ref p0, .int (nI L), .int (nI b)])), (p0, .inl (cI, M, .inl (wA f)))] (fun r w => ∃ (r0 : Int32), ((r0 = nI 1 ∧ ∃ d, b2 + d < a2 ∧ f ((i + d) % L) = v) ∨ (r0 = nI 0 ∧ ∀ d, b2 + d < a2 → f ((i + d) % L) ≠ v)) ∧ r = r0 ∧ w = [(h, .inr (1, [.ref p0, .int (nI L), .int (nI b)])), (p0, .inl (cI, M, .inl (wA f)))]) := by
  intro sz
  refine k_of (cc := b_Cy_comesWithin) (maxL := 6) (ret := (Option.some Jvm.ClassFile.FieldType.boolean)) (by decide) rfl (Nat.le_of_ble_eq_true rfl) ?_
  intro p e s m args below meth c ls H locs A Q hQ hx hb hml hr hts hown hlk hnm hsz hAe hP hK hD hS hA hE hAH hl
  have ht : ∀ w ∈ mw, w.before args s = true := fun w h => hts w (List.mem_cons_of_mem _ h)
  have hl : lv_has ls 6 [(0, .ref h), (1, .int (nI a2 - nI b2)), (2, .int (nI i)), (3, .int (nI v))] := hl
  have hi0 : i = (i + 0) % L := by rw [Nat.add_zero, Nat.mod_eq_of_lt hL]
  refine lv_iload_n hx hb d_Cy_comesWithin_0 rfl (lv_at hl 2 rfl) ?_
  rw [show nI i = nI ((i + 0) % L) by rw [← hi0]]
  refine lv_istore (lv' := [(4, .int (nI ((i + 0) % L))), (0, .ref h), (1, .int (nI a2 - nI b2)), (2, .int (nI i)), (3, .int (nI v))]) hx hb d_Cy_comesWithin_1 hl (by decide) rfl (fun ls hl => ?_)
  refine lv_iconst (v := nI 0) hx hb d_Cy_comesWithin_3 (by decide) ?_
  refine lv_istore (lv' := [(5, .int (nI 0)), (4, .int (nI ((i + 0) % L))), (0, .ref h), (1, .int (nI a2 - nI b2)), (2, .int (nI i)), (3, .int (nI v))]) hx hb d_Cy_comesWithin_4 hl (by decide) rfl (fun ls hl => ?_)
  have loop6 : ∀ (d : Nat) (k : Nat) (ls : Array Slot) (H : Heap) (locs : List Loc), a2 - (b2 + k) = d → (∀ d, d < k → f ((i + d) % L) ≠ v) → (k ≤ 40) → lv_has ls 6 [(0, .ref h), (1, .int (nI a2 - nI b2)), (2, .int (nI i)), (3, .int (nI v)), (4, .int (nI ((i + k) % L))), (5, .int (nI k))] → va_P D kcl [(h, .inr (1, [.ref p0, .int (nI L), .int (nI b)])), (p0, .inl (cI, M, .inl (wA f)))] H → va_D A [(h, .inr (1, [.ref p0, .int (nI L), .int (nI b)])), (p0, .inl (cI, M, .inl (wA f)))] → va_S A s.heap H locs → W p l e ({ frames := 1, cells := 0, slots := 0, locals := 21 } : Room) s m args below meth c H locs 0 0 Q (F0 m 6 ls []) := by
    intro d
    induction d using Nat.strongRecOn with
    | ind d ih6 =>
      intro k ls H locs hd6 hno hk9 hl hP hD hS
      have hlt : (i + k) % L < L := Nat.mod_lt _ (by omega)
      refine lv_iload hx hb d_Cy_comesWithin_6 (lv_at hl 5 rfl) ?_
      refine lv_iload_n hx hb d_Cy_comesWithin_8 rfl (lv_at hl 1 rfl) ?_
      refine lv_icmp_ge hx hb d_Cy_comesWithin_9 rfl (fun h9 => ?_) (fun h9 => ?_)
      · have h9 : a2 ≤ b2 + k := (wi_sle (by omega) (by omega) (by omega)).mp h9
        refine lv_iconst (v := nI 0) hx hb d_Cy_comesWithin_39 (by decide) ?_
        exact k_retz hQ hx hb hr hlk hAe hK hP hD hS (Nat.le_of_ble_eq_true rfl) (Nat.le_of_ble_eq_true rfl) (Nat.le_of_ble_eq_true rfl) rfl ⟨nI 0, Or.inr ⟨rfl, fun d hd => hno d (by omega)⟩, rfl, rfl⟩ d_Cy_comesWithin_40
      · have h9 : ¬ a2 ≤ b2 + k := fun z => h9 ((wi_sle (by omega) (by omega) (by omega)).mpr z)
        refine lv_aload_n hx hb d_Cy_comesWithin_12 rfl (lv_at hl 0 rfl) ?_
        refine va_get (D := D) (ci := 1) (v := .ref p0) (C := R_Cy) (T := T_Cy) (N := 3) hx hb ht u_Cy hown hK hP 0 rfl rfl 0 (by decide) (ht _ wd_74) (fun _ h9 => h9) rfl d_Cy_comesWithin_13 ?_
        refine lv_iload hx hb d_Cy_comesWithin_16 (lv_at hl 4 rfl) ?_
        refine wi_ald hx hb hK hP 1 0 rfl rfl (by omega) (by omega) d_Cy_comesWithin_18 ?_
        refine lv_iload_n hx hb d_Cy_comesWithin_19 rfl (lv_at hl 3 rfl) ?_
        refine wi_ne hx hb d_Cy_comesWithin_20 rfl (hf _ hlt) hv (fun h20 => ?_) (fun h20 => ?_)
        · refine lv_aload_n hx hb d_Cy_comesWithin_25 rfl (lv_at hl 0 rfl) ?_
          refine lv_iload hx hb d_Cy_comesWithin_26 (lv_at hl 4 rfl) ?_
          refine ck_i (wc := [(h, .inr (1, [.ref p0, .int (nI L), .int (nI b)]))]) (va_runV (As := [.int (nI ((i + k) % L))]) (rest := []) (C := R_Cy) ⟨hx, hb, hml, hown, ht⟩ (c_Cy_placeAfter l Hs D cI cZ cL h p0 L b ((i + k) % L) (by omega) (by omega) H.size) (gw_V 1 ht wd_169 wd_4 wd_166 wd_167 wd_168 (by decide +kernel) ⟨Nat.le_of_ble_eq_true rfl, Nat.le_of_ble_eq_true rfl⟩) (k_preV hE hAH hK hP hD hS [0] rfl rfl 0 rfl rfl) rfl rfl hl.1 rfl (lv_room (Nat.le_of_ble_eq_true rfl)) d_Cy_comesWithin_28 ⟨Nat.le_of_ble_eq_true rfl, Nat.le_of_ble_eq_true rfl⟩) hP hD hS hA [0] rfl rfl (fun r28 w1 H locs hpost hP hD hS => ?_)
          obtain ⟨rfl, rfl⟩ := hpost
          have hP : va_P D kcl [(h, .inr (1, [.ref p0, .int (nI L), .int (nI b)])), (p0, .inl (cI, M, .inl (wA f)))] H := hP
          have hD : va_D A [(h, .inr (1, [.ref p0, .int (nI L), .int (nI b)])), (p0, .inl (cI, M, .inl (wA f)))] := hD
          have hnx : pw_nxt ((i + k) % L) L = (i + (k + 1)) % L := by rw [pw_nxt_mod hlt, Nat.mod_add_mod]; rfl
          rw [hnx]
          refine lv_istore (lv' := [(4, .int (nI ((i + (k + 1)) % L))), (0, .ref h), (1, .int (nI a2 - nI b2)), (2, .int (nI i)), (3, .int (nI v)), (5, .int (nI k))]) hx hb d_Cy_comesWithin_31 hl (by decide) rfl (fun ls hl => ?_)
          refine wi_inc (k := 5) (lv' := [(5, .int (nI (k + 1))), (4, .int (nI ((i + (k + 1)) % L))), (0, .ref h), (1, .int (nI a2 - nI b2)), (2, .int (nI i)), (3, .int (nI v))]) hx hb d_Cy_comesWithin_33 hl rfl (by decide) rfl (fun ls hl => ?_)
          refine lv_goto hx hb d_Cy_comesWithin_36 rfl ?_
          exact ih6 (a2 - (b2 + (k + 1))) (by omega) (k + 1) ls H locs rfl (lt_s hno h20) (by omega) (lv_sub hl [2, 3, 4, 5, 1, 0] rfl) hP hD hS
        · refine lv_iconst (v := nI 1) hx hb d_Cy_comesWithin_23 (by decide) ?_
          exact k_retz hQ hx hb hr hlk hAe hK hP hD hS (Nat.le_of_ble_eq_true rfl) (Nat.le_of_ble_eq_true rfl) (Nat.le_of_ble_eq_true rfl) rfl ⟨nI 1, Or.inl ⟨rfl, k, by omega, h20⟩, rfl, rfl⟩ d_Cy_comesWithin_24
  exact loop6 _ (0) ls H locs rfl lt_0 (Nat.zero_le _) (lv_sub hl [2, 3, 4, 5, 1, 0] rfl) hP hD hS
set_option maxHeartbeats 4000000 in
set_option maxRecDepth 100000 in
theorem c_Cy_canGoOnFrom (l : Launch) (Hs : Heap) (D : va_G) (cI cZ cL : ClassId) (h : Nat) (p0 : Nat) (M : Nat) (f : Nat → Nat) (L : Nat) (b : Nat) (i : Nat) (co : Nat) (a1 : Nat) (a2 : Nat) (a3 : Nat) (a4 : Nat) (n : Nat) (f1 : Nat → Nat) (f2 : Nat → Nat) (f3 : Nat → Nat) (hL : i < L) (hM : L ≤ M) (hM2 : M ≤ 1500) (hf : ∀ t, t < L → f t < 2 ^ 31) (hn : n ≤ 10) (hc : ∀ t, t < n → f1 t < 2 ^ 31 ∧ f2 t ≤ 40 ∧ f3 t < 2 ^ 20) : kI l Hs D kcl (ty3 cI cZ cL) y_Cy_canGoOnFrom (mws y_Cy_canGoOnFrom b_Cy_canGoOnFrom 4 (Option.some Jvm.ClassFile.FieldType.boolean)) ({ frames := 2, cells := 0, slots := 0, locals := 46 } : Room) [.ref h, .int (nI i), .ref co] [(h, .inr (1, [.ref p0, .int (nI L), .int (nI b)])), (p0, .inl (cI, M, .inl (wA f))), (co, .inr (0, [.ref a1, .ref a2, .ref a3, .ref a4, .int (nI n)])), (a1, .inl (cI, 10, .inl (wA f1))), (a2, .inl (cI, 10, .inl (wA f2))), (a3, .inl (cI, 10, .inl (wA f3)))] (fun r w => ∃ (r0 : Int32), ((r0 = nI 1 ∧ pw_sea n f1 f2 f3 L f i) ∨ (r0 = nI 0 ∧ ¬ pw_sea n f1 f2 f3 L f i)) ∧ r = r0 ∧ w = [(h, .inr (1, [.ref p0, .int (nI L), .int (nI b)])), (p0, .inl (cI, M, .inl (wA f))), (co, .inr (0, [.ref a1, .ref a2, .ref a3, .ref a4, .int (nI n)])), (a1, .inl (cI, 10, .inl (wA f1))), (a2, .inl (cI, 10, .inl (wA f2))), (a3, .inl (cI, 10, .inl (wA f3)))]) := by
  intro sz
  refine k_of (cc := b_Cy_canGoOnFrom) (maxL := 4) (ret := (Option.some Jvm.ClassFile.FieldType.boolean)) (by decide) rfl (Nat.le_of_ble_eq_true rfl) ?_
  intro p e s m args below meth c ls H locs A Q hQ hx hb hml hr hts hown hlk hnm hsz hAe hP hK hD hS hA hE hAH hl
  have ht : ∀ w ∈ mw, w.before args s = true := fun w h => hts w (List.mem_cons_of_mem _ h)
  have hl : lv_has ls 4 [(0, .ref h), (1, .int (nI i)), (2, .ref co)] := hl
  refine lv_iconst (v := nI 0) hx hb d_Cy_canGoOnFrom_0 (by decide) ?_
  refine lv_istore_n (lv' := [(3, .int (nI 0)), (0, .ref h), (1, .int (nI i)), (2, .ref co)]) hx hb d_Cy_canGoOnFrom_1 rfl hl (by decide) rfl (fun ls hl => ?_)
  have loop2 : ∀ (d : Nat) (k : Nat) (ls : Array Slot) (H : Heap) (locs : List Loc), n - k = d → (k ≤ n) → (∀ t, t < k → ∃ d, f3 t + d < f2 t ∧ f ((i + d) % L) = f1 t) → lv_has ls 4 [(0, .ref h), (1, .int (nI i)), (2, .ref co), (3, .int (nI k))] → va_P D kcl [(h, .inr (1, [.ref p0, .int (nI L), .int (nI b)])), (p0, .inl (cI, M, .inl (wA f))), (co, .inr (0, [.ref a1, .ref a2, .ref a3, .ref a4, .int (nI n)])), (a1, .inl (cI, 10, .inl (wA f1))), (a2, .inl (cI, 10, .inl (wA f2))), (a3, .inl (cI, 10, .inl (wA f3)))] H → va_D A [(h, .inr (1, [.ref p0, .int (nI L), .int (nI b)])), (p0, .inl (cI, M, .inl (wA f))), (co, .inr (0, [.ref a1, .ref a2, .ref a3, .ref a4, .int (nI n)])), (a1, .inl (cI, 10, .inl (wA f1))), (a2, .inl (cI, 10, .inl (wA f2))), (a3, .inl (cI, 10, .inl (wA f3)))] → va_S A s.heap H locs → W p l e ({ frames := 2, cells := 0, slots := 0, locals := 46 } : Room) s m args below meth c H locs 0 0 Q (F0 m 2 ls []) := by
    intro d
    induction d using Nat.strongRecOn with
    | ind d ih2 =>
      intro k ls H locs hd2 hk hdo hl hP hD hS
      refine lv_iload_n hx hb d_Cy_canGoOnFrom_2 rfl (lv_at hl 3 rfl) ?_
      refine lv_aload_n hx hb d_Cy_canGoOnFrom_3 rfl (lv_at hl 2 rfl) ?_
      refine ck_i (wc := [(co, .inr (0, [.ref a1, .ref a2, .ref a3, .ref a4, .int (nI n)]))]) (va_runV (As := []) (rest := [.int (nI k)]) (C := R_Cl) ⟨hx, hb, hml, hown, ht⟩ (c_Cl_count l Hs D cI cZ cL co a1 a2 a3 a4 n  H.size) (gw_V 0 ht wd_149 wd_3 wd_146 wd_147 wd_148 (by decide +kernel) ⟨Nat.le_of_ble_eq_true rfl, Nat.le_of_ble_eq_true rfl⟩) (k_preV hE hAH hK hP hD hS [2] rfl rfl 2 rfl rfl) rfl rfl hl.1 rfl (lv_room (Nat.le_of_ble_eq_true rfl)) d_Cy_canGoOnFrom_4 ⟨Nat.le_of_ble_eq_true rfl, Nat.le_of_ble_eq_true rfl⟩) hP hD hS hA [2] rfl rfl (fun r4 w1 H locs hpost hP hD hS => ?_)
      obtain ⟨rfl, rfl⟩ := hpost
      have hP : va_P D kcl [(h, .inr (1, [.ref p0, .int (nI L), .int (nI b)])), (p0, .inl (cI, M, .inl (wA f))), (co, .inr (0, [.ref a1, .ref a2, .ref a3, .ref a4, .int (nI n)])), (a1, .inl (cI, 10, .inl (wA f1))), (a2, .inl (cI, 10, .inl (wA f2))), (a3, .inl (cI, 10, .inl (wA f3)))] H := hP
      have hD : va_D A [(h, .inr (1, [.ref p0, .int (nI L), .int (nI b)])), (p0, .inl (cI, M, .inl (wA f))), (co, .inr (0, [.ref a1, .ref a2, .ref a3, .ref a4, .int (nI n)])), (a1, .inl (cI, 10, .inl (wA f1))), (a2, .inl (cI, 10, .inl (wA f2))), (a3, .inl (cI, 10, .inl (wA f3)))] := hD
      refine wi_ge hx hb d_Cy_canGoOnFrom_7 rfl (by omega) (by omega) (fun h7 => ?_) (fun h7 => ?_)
      · refine lv_iconst (v := nI 1) hx hb d_Cy_canGoOnFrom_42 (by decide) ?_
        exact k_retz hQ hx hb hr hlk hAe hK hP hD hS (Nat.le_of_ble_eq_true rfl) (Nat.le_of_ble_eq_true rfl) (Nat.le_of_ble_eq_true rfl) rfl ⟨nI 1, Or.inl ⟨rfl, fun t h9 => hdo t (by omega)⟩, rfl, rfl⟩ d_Cy_canGoOnFrom_43
      · have hck := hc k h7
        refine lv_aload_n hx hb d_Cy_canGoOnFrom_10 rfl (lv_at hl 0 rfl) ?_
        refine lv_aload_n hx hb d_Cy_canGoOnFrom_11 rfl (lv_at hl 2 rfl) ?_
        refine lv_iload_n hx hb d_Cy_canGoOnFrom_12 rfl (lv_at hl 3 rfl) ?_
        refine ck_i (wc := [(co, .inr (0, [.ref a1, .ref a2, .ref a3, .ref a4, .int (nI n)])), (a2, .inl (cI, 10, .inl (wA f2)))]) (va_runV (As := [.int (nI k)]) (rest := [.ref h]) (C := R_Cl) ⟨hx, hb, hml, hown, ht⟩ (c_Cl_spanAt l Hs D cI cZ cL co a1 a2 a3 a4 n f2 k (by omega) H.size) (gw_V 1 ht wd_153 wd_3 wd_150 wd_151 wd_152 (by decide +kernel) ⟨Nat.le_of_ble_eq_true rfl, Nat.le_of_ble_eq_true rfl⟩) (k_preV hE hAH hK hP hD hS [2, 4] rfl rfl 2 rfl rfl) rfl rfl hl.1 rfl (lv_room (Nat.le_of_ble_eq_true rfl)) d_Cy_canGoOnFrom_13 ⟨Nat.le_of_ble_eq_true rfl, Nat.le_of_ble_eq_true rfl⟩) hP hD hS hA [2, 4] rfl rfl (fun r13 w1 H locs hpost hP hD hS => ?_)
        obtain ⟨rfl, rfl⟩ := hpost
        have hP : va_P D kcl [(h, .inr (1, [.ref p0, .int (nI L), .int (nI b)])), (p0, .inl (cI, M, .inl (wA f))), (co, .inr (0, [.ref a1, .ref a2, .ref a3, .ref a4, .int (nI n)])), (a1, .inl (cI, 10, .inl (wA f1))), (a2, .inl (cI, 10, .inl (wA f2))), (a3, .inl (cI, 10, .inl (wA f3)))] H := hP
        have hD : va_D A [(h, .inr (1, [.ref p0, .int (nI L), .int (nI b)])), (p0, .inl (cI, M, .inl (wA f))), (co, .inr (0, [.ref a1, .ref a2, .ref a3, .ref a4, .int (nI n)])), (a1, .inl (cI, 10, .inl (wA f1))), (a2, .inl (cI, 10, .inl (wA f2))), (a3, .inl (cI, 10, .inl (wA f3)))] := hD
        refine lv_aload_n hx hb d_Cy_canGoOnFrom_16 rfl (lv_at hl 2 rfl) ?_
        refine lv_iload_n hx hb d_Cy_canGoOnFrom_17 rfl (lv_at hl 3 rfl) ?_
        refine ck_i (wc := [(co, .inr (0, [.ref a1, .ref a2, .ref a3, .ref a4, .int (nI n)])), (a3, .inl (cI, 10, .inl (wA f3)))]) (va_runV (As := [.int (nI k)]) (rest := [.int (nI (f2 k)), .ref h]) (C := R_Cl) ⟨hx, hb, hml, hown, ht⟩ (c_Cl_waitAt l Hs D cI cZ cL co a1 a2 a3 a4 n f3 k (by omega) H.size) (gw_V 1 ht wd_157 wd_3 wd_154 wd_155 wd_156 (by decide +kernel) ⟨Nat.le_of_ble_eq_true rfl, Nat.le_of_ble_eq_true rfl⟩) (k_preV hE hAH hK hP hD hS [2, 5] rfl rfl 2 rfl rfl) rfl rfl hl.1 rfl (lv_room (Nat.le_of_ble_eq_true rfl)) d_Cy_canGoOnFrom_18 ⟨Nat.le_of_ble_eq_true rfl, Nat.le_of_ble_eq_true rfl⟩) hP hD hS hA [2, 5] rfl rfl (fun r18 w1 H locs hpost hP hD hS => ?_)
        obtain ⟨rfl, rfl⟩ := hpost
        have hP : va_P D kcl [(h, .inr (1, [.ref p0, .int (nI L), .int (nI b)])), (p0, .inl (cI, M, .inl (wA f))), (co, .inr (0, [.ref a1, .ref a2, .ref a3, .ref a4, .int (nI n)])), (a1, .inl (cI, 10, .inl (wA f1))), (a2, .inl (cI, 10, .inl (wA f2))), (a3, .inl (cI, 10, .inl (wA f3)))] H := hP
        have hD : va_D A [(h, .inr (1, [.ref p0, .int (nI L), .int (nI b)])), (p0, .inl (cI, M, .inl (wA f))), (co, .inr (0, [.ref a1, .ref a2, .ref a3, .ref a4, .int (nI n)])), (a1, .inl (cI, 10, .inl (wA f1))), (a2, .inl (cI, 10, .inl (wA f2))), (a3, .inl (cI, 10, .inl (wA f3)))] := hD
        refine lv_isub hx hb d_Cy_canGoOnFrom_21 ?_
        refine lv_iload_n hx hb d_Cy_canGoOnFrom_22 rfl (lv_at hl 1 rfl) ?_
        refine lv_aload_n hx hb d_Cy_canGoOnFrom_23 rfl (lv_at hl 2 rfl) ?_
        refine lv_iload_n hx hb d_Cy_canGoOnFrom_24 rfl (lv_at hl 3 rfl) ?_
        refine ck_i (wc := [(co, .inr (0, [.ref a1, .ref a2, .ref a3, .ref a4, .int (nI n)])), (a1, .inl (cI, 10, .inl (wA f1)))]) (va_runV (As := [.int (nI k)]) (rest := [.int (nI i), .int ((nI (f2 k)) - (nI (f3 k))), .ref h]) (C := R_Cl) ⟨hx, hb, hml, hown, ht⟩ (c_Cl_idAt l Hs D cI cZ cL co a1 a2 a3 a4 n f1 k (by omega) H.size) (gw_V 1 ht wd_161 wd_3 wd_158 wd_159 wd_160 (by decide +kernel) ⟨Nat.le_of_ble_eq_true rfl, Nat.le_of_ble_eq_true rfl⟩) (k_preV hE hAH hK hP hD hS [2, 3] rfl rfl 2 rfl rfl) rfl rfl hl.1 rfl (lv_room (Nat.le_of_ble_eq_true rfl)) d_Cy_canGoOnFrom_25 ⟨Nat.le_of_ble_eq_true rfl, Nat.le_of_ble_eq_true rfl⟩) hP hD hS hA [2, 3] rfl rfl (fun r25 w1 H locs hpost hP hD hS => ?_)
        obtain ⟨rfl, rfl⟩ := hpost
        have hP : va_P D kcl [(h, .inr (1, [.ref p0, .int (nI L), .int (nI b)])), (p0, .inl (cI, M, .inl (wA f))), (co, .inr (0, [.ref a1, .ref a2, .ref a3, .ref a4, .int (nI n)])), (a1, .inl (cI, 10, .inl (wA f1))), (a2, .inl (cI, 10, .inl (wA f2))), (a3, .inl (cI, 10, .inl (wA f3)))] H := hP
        have hD : va_D A [(h, .inr (1, [.ref p0, .int (nI L), .int (nI b)])), (p0, .inl (cI, M, .inl (wA f))), (co, .inr (0, [.ref a1, .ref a2, .ref a3, .ref a4, .int (nI n)])), (a1, .inl (cI, 10, .inl (wA f1))), (a2, .inl (cI, 10, .inl (wA f2))), (a3, .inl (cI, 10, .inl (wA f3)))] := hD
        refine ck_i (wc := [(h, .inr (1, [.ref p0, .int (nI L), .int (nI b)])), (p0, .inl (cI, M, .inl (wA f)))]) (va_runV (As := [.int (nI (f2 k) - nI (f3 k)), .int (nI i), .int (nI (f1 k))]) (rest := []) (C := R_Cy) ⟨hx, hb, hml, hown, ht⟩ (c_Cy_comesWithin l Hs D cI cZ cL h p0 M f L b (f2 k) (f3 k) i (f1 k) hL hM hM2 hck.2.1 hck.2.2 hck.1 hf H.size) (gw_V 3 ht wd_165 wd_4 wd_162 wd_164 ws_3 (by decide +kernel) ⟨Nat.le_of_ble_eq_true rfl, Nat.le_of_ble_eq_true rfl⟩) (k_preV hE hAH hK hP hD hS [0, 1] rfl rfl 0 rfl rfl) rfl rfl hl.1 rfl (lv_room (Nat.le_of_ble_eq_true rfl)) d_Cy_canGoOnFrom_28 ⟨Nat.le_of_ble_eq_true rfl, Nat.le_of_ble_eq_true rfl⟩) hP hD hS hA [0, 1] rfl rfl (fun r28 w1 H locs hpost hP hD hS => ?_)
        obtain ⟨r0, hcw, rfl, rfl⟩ := hpost
        have hP : va_P D kcl [(h, .inr (1, [.ref p0, .int (nI L), .int (nI b)])), (p0, .inl (cI, M, .inl (wA f))), (co, .inr (0, [.ref a1, .ref a2, .ref a3, .ref a4, .int (nI n)])), (a1, .inl (cI, 10, .inl (wA f1))), (a2, .inl (cI, 10, .inl (wA f2))), (a3, .inl (cI, 10, .inl (wA f3)))] H := hP
        have hD : va_D A [(h, .inr (1, [.ref p0, .int (nI L), .int (nI b)])), (p0, .inl (cI, M, .inl (wA f))), (co, .inr (0, [.ref a1, .ref a2, .ref a3, .ref a4, .int (nI n)])), (a1, .inl (cI, 10, .inl (wA f1))), (a2, .inl (cI, 10, .inl (wA f2))), (a3, .inl (cI, 10, .inl (wA f3)))] := hD
        refine lv_if_ne hx hb d_Cy_canGoOnFrom_31 rfl (fun h31 => ?_) (fun h31 => ?_)
        · have hyes : ∃ d, f3 k + d < f2 k ∧ f ((i + d) % L) = f1 k := by
            rcases hcw with ⟨-, hd⟩ | ⟨e, -⟩
            · exact hd
            · exact absurd e h31
          refine wi_inc (k := 3) (lv' := [(3, .int (nI (k + 1))), (0, .ref h), (1, .int (nI i)), (2, .ref co)]) hx hb d_Cy_canGoOnFrom_36 hl rfl (by decide) rfl (fun ls hl => ?_)
          refine lv_goto hx hb d_Cy_canGoOnFrom_39 rfl ?_
          exact ih2 (n - (k + 1)) (by omega) (k + 1) ls H locs rfl (by omega) (lt_s hdo hyes) (lv_sub hl [1, 2, 3, 0] rfl) hP hD hS
        · have hnot : ∀ d, f3 k + d < f2 k → f ((i + d) % L) ≠ f1 k := by
            rcases hcw with ⟨e, -⟩ | ⟨-, hd⟩
            · rw [e] at h31; exact absurd h31 (by decide)
            · exact hd
          refine lv_iconst (v := nI 0) hx hb d_Cy_canGoOnFrom_34 (by decide) ?_
          exact k_retz hQ hx hb hr hlk hAe hK hP hD hS (Nat.le_of_ble_eq_true rfl) (Nat.le_of_ble_eq_true rfl) (Nat.le_of_ble_eq_true rfl) rfl ⟨nI 0, Or.inr ⟨rfl, fun z => by obtain ⟨d, h1, h2⟩ := z k h7; exact hnot d h1 h2⟩, rfl, rfl⟩ d_Cy_canGoOnFrom_35
  exact loop2 _ (0) ls H locs rfl (Nat.zero_le _) lt_0 (lv_sub hl [1, 2, 3, 0] rfl) hP hD hS
set_option maxHeartbeats 4000000 in
set_option maxRecDepth 100000 in
theorem c_Cy_seamFor (l : Launch) (Hs : Heap) (D : va_G) (cI cZ cL : ClassId) (h : Nat) (p0 : Nat) (M : Nat) (f : Nat → Nat) (L : Nat) (b : Nat) (co : Nat) (a1 : Nat) (a2 : Nat) (a3 : Nat) (a4 : Nat) (n : Nat) (f1 : Nat → Nat) (f2 : Nat → Nat) (f3 : Nat → Nat) (hM : L ≤ M) (hM2 : M ≤ 1500) (hf : ∀ t, t < L → f t < 2 ^ 31) (hn : n ≤ 10) (hc : ∀ t, t < n → f1 t < 2 ^ 31 ∧ f2 t ≤ 40 ∧ f3 t < 2 ^ 20) : kI l Hs D kcl (ty3 cI cZ cL) y_Cy_seamFor (mws y_Cy_seamFor b_Cy_seamFor 3 (Option.some Jvm.ClassFile.FieldType.int)) ({ frames := 3, cells := 0, slots := 0, locals := 69 } : Room) [.ref h, .ref co] [(h, .inr (1, [.ref p0, .int (nI L), .int (nI b)])), (p0, .inl (cI, M, .inl (wA f))), (co, .inr (0, [.ref a1, .ref a2, .ref a3, .ref a4, .int (nI n)])), (a1, .inl (cI, 10, .inl (wA f1))), (a2, .inl (cI, 10, .inl (wA f2))), (a3, .inl (cI, 10, .inl (wA f3)))] (fun r w => ∃ (r0 : Int32), ((∃ x, x < L ∧ r0 = nI x ∧ pw_sea n f1 f2 f3 L f x ∧ ∀ j, j < x → ¬ pw_sea n f1 f2 f3 L f j) ∨ (r0 = -1 ∧ ∀ j, j < L → ¬ pw_sea n f1 f2 f3 L f j)) ∧ r = r0 ∧ w = [(h, .inr (1, [.ref p0, .int (nI L), .int (nI b)])), (p0, .inl (cI, M, .inl (wA f))), (co, .inr (0, [.ref a1, .ref a2, .ref a3, .ref a4, .int (nI n)])), (a1, .inl (cI, 10, .inl (wA f1))), (a2, .inl (cI, 10, .inl (wA f2))), (a3, .inl (cI, 10, .inl (wA f3)))]) := by
  intro sz
  refine k_of (cc := b_Cy_seamFor) (maxL := 3) (ret := (Option.some Jvm.ClassFile.FieldType.int)) (by decide) rfl (Nat.le_of_ble_eq_true rfl) ?_
  intro p e s m args below meth c ls H locs A Q hQ hx hb hml hr hts hown hlk hnm hsz hAe hP hK hD hS hA hE hAH hl
  have ht : ∀ w ∈ mw, w.before args s = true := fun w h => hts w (List.mem_cons_of_mem _ h)
  have hl : lv_has ls 3 [(0, .ref h), (1, .ref co)] := hl
  refine lv_iconst (v := nI 0) hx hb d_Cy_seamFor_0 (by decide) ?_
  refine lv_istore_n (lv' := [(2, .int (nI 0)), (0, .ref h), (1, .ref co)]) hx hb d_Cy_seamFor_1 rfl hl (by decide) rfl (fun ls hl => ?_)
  have loop2 : ∀ (d : Nat) (k : Nat) (ls : Array Slot) (H : Heap) (locs : List Loc), L - k = d → (k ≤ L) → (∀ j, j < k → ¬ pw_sea n f1 f2 f3 L f j) → lv_has ls 3 [(0, .ref h), (1, .ref co), (2, .int (nI k))] → va_P D kcl [(h, .inr (1, [.ref p0, .int (nI L), .int (nI b)])), (p0, .inl (cI, M, .inl (wA f))), (co, .inr (0, [.ref a1, .ref a2, .ref a3, .ref a4, .int (nI n)])), (a1, .inl (cI, 10, .inl (wA f1))), (a2, .inl (cI, 10, .inl (wA f2))), (a3, .inl (cI, 10, .inl (wA f3)))] H → va_D A [(h, .inr (1, [.ref p0, .int (nI L), .int (nI b)])), (p0, .inl (cI, M, .inl (wA f))), (co, .inr (0, [.ref a1, .ref a2, .ref a3, .ref a4, .int (nI n)])), (a1, .inl (cI, 10, .inl (wA f1))), (a2, .inl (cI, 10, .inl (wA f2))), (a3, .inl (cI, 10, .inl (wA f3)))] → va_S A s.heap H locs → W p l e ({ frames := 3, cells := 0, slots := 0, locals := 69 } : Room) s m args below meth c H locs 0 0 Q (F0 m 2 ls []) := by
    intro d
    induction d using Nat.strongRecOn with
    | ind d ih2 =>
      intro k ls H locs hd2 hk hno hl hP hD hS
      refine lv_iload_n hx hb d_Cy_seamFor_2 rfl (lv_at hl 2 rfl) ?_
      refine lv_aload_n hx hb d_Cy_seamFor_3 rfl (lv_at hl 0 rfl) ?_
      refine va_get (D := D) (ci := 1) (v := .int (nI L)) (C := R_Cy) (T := T_Cy) (N := 3) hx hb ht u_Cy hown hK hP 0 rfl rfl 1 (by decide) (ht _ wd_75) (fun _ h9 => h9) rfl d_Cy_seamFor_4 ?_
      refine wi_ge hx hb d_Cy_seamFor_7 rfl (by omega) (by omega) (fun h7 => ?_) (fun h7 => ?_)
      · refine lv_iconst (v := -1) hx hb d_Cy_seamFor_27 (by decide) ?_
        exact k_reti hQ hx hb hr hlk hAe hK hP hD hS (Nat.le_of_ble_eq_true rfl) (Nat.le_of_ble_eq_true rfl) (Nat.le_of_ble_eq_true rfl) ⟨-1, Or.inr ⟨rfl, fun j hj => hno j (by omega)⟩, rfl, rfl⟩ d_Cy_seamFor_28
      · refine lv_aload_n hx hb d_Cy_seamFor_10 rfl (lv_at hl 0 rfl) ?_
        refine lv_iload_n hx hb d_Cy_seamFor_11 rfl (lv_at hl 2 rfl) ?_
        refine lv_aload_n hx hb d_Cy_seamFor_12 rfl (lv_at hl 1 rfl) ?_
        refine ck_i (wc := [(h, .inr (1, [.ref p0, .int (nI L), .int (nI b)])), (p0, .inl (cI, M, .inl (wA f))), (co, .inr (0, [.ref a1, .ref a2, .ref a3, .ref a4, .int (nI n)])), (a1, .inl (cI, 10, .inl (wA f1))), (a2, .inl (cI, 10, .inl (wA f2))), (a3, .inl (cI, 10, .inl (wA f3)))]) (va_runV (As := [.int (nI k), .ref co]) (rest := []) (C := R_Cy) ⟨hx, hb, hml, hown, ht⟩ (c_Cy_canGoOnFrom l Hs D cI cZ cL h p0 M f L b k co a1 a2 a3 a4 n f1 f2 f3 h7 hM hM2 hf hn hc H.size) (gw_V 2 ht wd_145 wd_4 wd_142 wd_144 ws_2 (by decide +kernel) ⟨Nat.le_of_ble_eq_true rfl, Nat.le_of_ble_eq_true rfl⟩) (k_preV hE hAH hK hP hD hS [0, 1, 2, 3, 4, 5] rfl rfl 0 rfl rfl) rfl rfl hl.1 rfl (lv_room (Nat.le_of_ble_eq_true rfl)) d_Cy_seamFor_13 ⟨Nat.le_of_ble_eq_true rfl, Nat.le_of_ble_eq_true rfl⟩) hP hD hS hA [0, 1, 2, 3, 4, 5] rfl rfl (fun r13 w1 H locs hpost hP hD hS => ?_)
        obtain ⟨r0, hcg, rfl, rfl⟩ := hpost
        have hP : va_P D kcl [(h, .inr (1, [.ref p0, .int (nI L), .int (nI b)])), (p0, .inl (cI, M, .inl (wA f))), (co, .inr (0, [.ref a1, .ref a2, .ref a3, .ref a4, .int (nI n)])), (a1, .inl (cI, 10, .inl (wA f1))), (a2, .inl (cI, 10, .inl (wA f2))), (a3, .inl (cI, 10, .inl (wA f3)))] H := hP
        have hD : va_D A [(h, .inr (1, [.ref p0, .int (nI L), .int (nI b)])), (p0, .inl (cI, M, .inl (wA f))), (co, .inr (0, [.ref a1, .ref a2, .ref a3, .ref a4, .int (nI n)])), (a1, .inl (cI, 10, .inl (wA f1))), (a2, .inl (cI, 10, .inl (wA f2))), (a3, .inl (cI, 10, .inl (wA f3)))] := hD
        refine lv_if_eq hx hb d_Cy_seamFor_16 rfl (fun h16 => ?_) (fun h16 => ?_)
        · have hnk : ¬ pw_sea n f1 f2 f3 L f k := by
            rcases hcg with ⟨e, -⟩ | ⟨-, hd⟩
            · rw [e] at h16; exact absurd h16 (by decide)
            · exact hd
          refine wi_inc (k := 2) (lv' := [(2, .int (nI (k + 1))), (0, .ref h), (1, .ref co)]) hx hb d_Cy_seamFor_21 hl rfl (by decide) rfl (fun ls hl => ?_)
          refine lv_goto hx hb d_Cy_seamFor_24 rfl ?_
          exact ih2 (L - (k + 1)) (by omega) (k + 1) ls H locs rfl (by omega) (lt_s hno hnk) (lv_sub hl [1, 2, 0] rfl) hP hD hS
        · have hyk : pw_sea n f1 f2 f3 L f k := by
            rcases hcg with ⟨-, hd⟩ | ⟨e, -⟩
            · exact hd
            · exact absurd e h16
          refine lv_iload_n hx hb d_Cy_seamFor_19 rfl (lv_at hl 2 rfl) ?_
          exact k_reti hQ hx hb hr hlk hAe hK hP hD hS (Nat.le_of_ble_eq_true rfl) (Nat.le_of_ble_eq_true rfl) (Nat.le_of_ble_eq_true rfl) ⟨nI k, Or.inl ⟨k, h7, rfl, hyk, hno⟩, rfl, rfl⟩ d_Cy_seamFor_20
  exact loop2 _ (0) ls H locs rfl (Nat.zero_le _) lt_0 (lv_sub hl [1, 2, 0] rfl) hP hD hS
end
section
/-! RoundingBuilder. -/
theorem pw_rnd_on {v s k : Nat} (hk : k < 6) (h : v * 2 ≤ s) : pw_rnd (6 - k) v s = pw_rnd (6 - (k + 1)) (v * 2) s := by
  rw [show 6 - k = (6 - (k + 1)) + 1 by omega]
  show (if 2 * v ≤ s then pw_rnd (6 - (k + 1)) (2 * v) s else v) = _
  rw [if_pos (by omega), Nat.mul_comm]
theorem pw_rnd_off {v s f : Nat} (h : s < v * 2) : pw_rnd f v s = v := by
  cases f with
  | zero => rfl
  | succ f =>
    show (if 2 * v ≤ s then pw_rnd f (2 * v) s else v) = v
    rw [if_neg (by omega)]
/-- those with this rounded span get their places -/
def pw_gf (L : Nat) (id r : Nat → Nat) (st : Nat) (f : Nat → Nat) : Nat → Nat → Nat
  | 0 => f
  | k + 1 => if r k = st then pw_gv L (id k) st (pw_gf L id r st f k) else pw_gf L id r st f k
theorem pw_gv_lt {L v r B : Nat} {f : Nat → Nat} (hf : ∀ t, t < L → f t < B) (hv : v < B) : ∀ t, t < L → pw_gv L v r f t < B := by
  intro t ht
  unfold pw_gv
  split
  · exact hv
  · exact hf t ht
theorem pw_gf_lt {L st B : Nat} {id r f : Nat → Nat} {n : Nat} (hf : ∀ t, t < L → f t < B) (hid : ∀ t, t < n → id t < B) : ∀ k, k ≤ n → ∀ t, t < L → pw_gf L id r st f k t < B := by
  intro k
  induction k with
  | zero => intro _; exact hf
  | succ k ih =>
    intro hk
    unfold pw_gf
    split
    · exact pw_gv_lt (ih (by omega)) (hid k (by omega))
    · exact ih (by omega)
theorem pw_gf_t {L st : Nat} {id r f : Nat → Nat} {k : Nat} (h : r k = st) : pw_gv L (id k) st (pw_gf L id r st f k) = pw_gf L id r st f (k + 1) := by
  show _ = if r k = st then _ else _
  rw [if_pos h]
theorem pw_gf_f {L st : Nat} {id r f : Nat → Nat} {k : Nat} (h : r k ≠ st) : pw_gf L id r st f k = pw_gf L id r st f (k + 1) := by
  show _ = if r k = st then _ else _
  rw [if_neg h]
/-- what lies beyond L doesn't count -/
theorem pw_ff_cg {c c' : Nat → Nat} : ∀ f p, (∀ j, p ≤ j → j < p + f → c j = c' j) → pw_ff c f p = pw_ff c' f p := by
  intro f
  induction f with
  | zero => intro p _; rfl
  | succ f ih =>
    intro p h
    show (if c p = 0 then p else _) = (if c' p = 0 then p else _)
    rw [h p (Nat.le_refl p) (by omega), ih (p + 1) fun j h1 h2 => h j (by omega) (by omega)]
theorem pw_gv_cg {L v r : Nat} {c c' : Nat → Nat} (h : ∀ j, j < L → c j = c' j) : ∀ j, j < L → pw_gv L v r c j = pw_gv L v r c' j := by
  intro j hj
  unfold pw_gv
  rw [pw_ff_cg L 0 fun j _ h2 => h j (by omega), h j hj]
theorem pw_gf_cy {L st : Nat} {id r f : Nat → Nat} {l : List Nat} (h : ∀ j, j < L → f j = pw_cy L id r l j) : ∀ n, ∀ j, j < L → pw_gf L id r st f n j = pw_cy L id r (l ++ (List.range n).filter (fun t => decide (r t = st))) j := by
  intro n
  induction n with
  | zero => intro j hj; simp [pw_gf, h j hj]
  | succ n ih =>
    intro j hj
    rw [List.range_succ, List.filter_append]
    by_cases e : r n = st
    · rw [← pw_gf_t e, show List.filter (fun t => decide (r t = st)) [n] = [n] by simp [e], ← List.append_assoc, pw_cy_add]
      rw [pw_gv_cg ih j hj, e]
    · rw [← pw_gf_f e, show List.filter (fun t => decide (r t = st)) [n] = [] by simp [e], List.append_nil]
      exact ih j hj
/-- step by step, doubled each time -/
def pw_dl (b : Nat) (r : Nat → Nat) (n : Nat) : Nat → List Nat
  | 0 => []
  | k + 1 => pw_dl b r n k ++ (List.range n).filter (fun t => decide (r t = b * 2 ^ k))
theorem pw_dl_mem {b : Nat} {r : Nat → Nat} {n : Nat} {a : Nat} : ∀ k, a ∈ pw_dl b r n k ↔ a < n ∧ ∃ j, j < k ∧ r a = b * 2 ^ j := by
  intro k
  induction k with
  | zero => simp [pw_dl]
  | succ k ih =>
    show a ∈ pw_dl b r n k ++ _ ↔ _
    rw [List.mem_append, ih, List.mem_filter, List.mem_range, decide_eq_true_iff]
    constructor
    · rintro (⟨h1, j, h2, h3⟩ | ⟨h1, h2⟩)
      · exact ⟨h1, j, by omega, h3⟩
      · exact ⟨h1, k, by omega, h2⟩
    · rintro ⟨h1, j, h2, h3⟩
      by_cases e : j = k
      · subst e; exact Or.inr ⟨h1, h3⟩
      · exact Or.inl ⟨h1, j, by omega, h3⟩
theorem pw_dl_srt {b : Nat} {r : Nat → Nat} {n : Nat} (hb : 0 < b) : ∀ k, (pw_dl b r n k).Pairwise (pw_lt r) := by
  intro k
  induction k with
  | zero => exact List.Pairwise.nil
  | succ k ih =>
    show (pw_dl b r n k ++ _).Pairwise _
    rw [List.pairwise_append]
    refine ⟨ih, ?_, ?_⟩
    · refine List.Pairwise.imp_of_mem ?_ (List.pairwise_lt_range.filter _)
      intro x y hx hy hxy
      rw [List.mem_filter, decide_eq_true_iff] at hx hy
      exact Or.inr ⟨by rw [hx.2, hy.2], hxy⟩
    · intro x hx y hy
      obtain ⟨-, j, hj, e⟩ := (pw_dl_mem k).mp hx
      rw [List.mem_filter, decide_eq_true_iff] at hy
      refine Or.inl ?_
      rw [e, hy.2]
      exact Nat.mul_lt_mul_of_pos_left (Nat.pow_lt_pow_right (by decide) hj) hb
theorem pw_dl_all {b n k : Nat} {sp : Nat → Nat} (hb : 0 < b) (hk : k = 7 ∨ pw_mx (pw_r b sp) n < b * 2 ^ k) : pw_dl b (pw_r b sp) n k = pw_srt (pw_r b sp) n := by
  refine pw_one _ _ (pw_dl_srt hb k) (pw_srt_srt n) fun a => ?_
  rw [pw_dl_mem, pw_srt_mem]
  refine ⟨fun h => h.1, fun h => ⟨h, ?_⟩⟩
  obtain ⟨j, hj, e⟩ := pw_rnd_pow 6 b (sp a)
  refine ⟨j, ?_, e⟩
  rcases hk with hk | hk
  · omega
  · by_cases hjk : j < k
    · exact hjk
    · exfalso
      have h1 := pw_mx_ge (r := pw_r b sp) a h
      have e2 : pw_r b sp a = b * 2 ^ j := e
      have h2 : b * 2 ^ k ≤ b * 2 ^ j := Nat.mul_le_mul_left b (Nat.pow_le_pow_right (by decide) (by omega))
      omega
theorem pw_mx_b {b : Nat} {sp : Nat → Nat} {n k : Nat} (hk : k ≤ n) (h : ∀ t, t < n → b ≤ sp t ∧ sp t ≤ 40) : pw_mx (pw_r b sp) k ≤ 40 := pw_mx_le (by decide) fun t ht => Nat.le_trans (pw_rnd_le 6 b (sp t) (h t (by omega)).1) (h t (by omega)).2
set_option maxHeartbeats 4000000 in
set_option maxRecDepth 100000 in
theorem c_Rb_init (l : Launch) (Hs : Heap) (D : va_G) (cI cZ cL : ClassId) (h : Nat) : kV l Hs D kcl (ty3 cI cZ cL) y_Rb_init (mws y_Rb_init b_Rb_init 1 (Option.none : Option Jvm.ClassFile.FieldType)) ({ frames := 1, cells := 1, slots := 10, locals := 12 } : Room) [.ref h] [(h, .inr (2, [.null]))] (fun w => ∃ (a0 : Nat), w = [(h, .inr (2, [.ref a0])), (a0, .inl (cI, 10, .inl (wA (fun _ => 0))))]) := by
  intro sz
  refine k_of (cc := b_Rb_init) (maxL := 1) (ret := (Option.none : Option Jvm.ClassFile.FieldType)) (by decide) rfl (Nat.le_of_ble_eq_true rfl) ?_
  intro p e s m args below meth c ls H locs A Q hQ hx hb hml hr hts hown hlk hnm hsz hAe hP hK hD hS hA hE hAH hl
  have ht : ∀ w ∈ mw, w.before args s = true := fun w h => hts w (List.mem_cons_of_mem _ h)
  have hl : lv_has ls 1 [(0, .ref h)] := hl
  refine lv_aload_n hx hb d_Rb_init_0 rfl (lv_at hl 0 rfl) ?_
  refine W.objInit hx hb hown (ht _ wd_40) (ht _ wd_33) (ht _ wd_34) rfl (by rw [hml]; exact hl.1) rfl d_Rb_init_1 (Nat.le_of_ble_eq_true rfl) (Nat.le_of_ble_eq_true rfl) ?_
  refine W.eq (g2 := F0 m 4 ls []) rfl ?_
  refine lv_aload_n hx hb d_Rb_init_4 rfl (lv_at hl 0 rfl) ?_
  refine lv_bipush (v := nI 10) hx hb d_Rb_init_5 (by decide) ?_
  refine wi_newa (atype := .int) (a0 := (10, .inl (wA (fun _ => 0)))) (N' := 10) hx hb (ht _ wd_45) rfl (by decide) hK hP hD hS hA 0 rfl (fun _ => rfl) (by decide) rfl (by decide) (Nat.le_of_ble_eq_true rfl) (Nat.le_of_ble_eq_true rfl) d_Rb_init_7 (fun q7 H hP hD hS => ?_)
  have hP : va_P D kcl [(h, .inr (2, [.null])), (q7, .inl (cI, 10, .inl (wA (fun _ => 0))))] H := hP
  have hD : va_D A [(h, .inr (2, [.null])), (q7, .inl (cI, 10, .inl (wA (fun _ => 0))))] := hD
  refine W.widen (k := 1) (n := 10) (by decide) (by decide) ?_
  refine va_putF (D := D) (ci := 2) (v := .ref q7) (ty := (.array .int)) (C := R_Rb) (T := T_Rb) (N := 1) hx hb ht u_Rb t_Rb t_Rb_ok n_Rb hown hK hP hD hS 0 rfl rfl 0 (by decide) (ht _ wd_41) (fun _ h9 => h9) rfl hnm rfl (by decide +kernel) rfl rfl (Nat.le_of_ble_eq_true rfl) d_Rb_init_9 (fun H locs hP hD hS => ?_)
  have hP : va_P D kcl [(h, .inr (2, [.ref q7])), (q7, .inl (cI, 10, .inl (wA (fun _ => 0))))] H := hP
  have hD : va_D A [(h, .inr (2, [.ref q7])), (q7, .inl (cI, 10, .inl (wA (fun _ => 0))))] := hD
  exact k_retv hQ hx hb hr hlk hAe hK hP hD hS (Nat.le_of_ble_eq_true rfl) (Nat.le_of_ble_eq_true rfl) (Nat.le_of_ble_eq_true rfl) ⟨q7, rfl⟩ d_Rb_init_12
set_option maxHeartbeats 4000000 in
set_option maxRecDepth 100000 in
theorem c_Rb_roundDown (l : Launch) (Hs : Heap) (D : va_G) (cI cZ cL : ClassId) (z : Nat) (b : Nat) (hb1 : b ≤ z) (hz : z ≤ 40) : kI l Hs D kcl (ty3 cI cZ cL) y_Rb_roundDown (mws y_Rb_roundDown b_Rb_roundDown 4 (Option.some Jvm.ClassFile.FieldType.int)) ({ frames := 0, cells := 0, slots := 0, locals := 0 } : Room) [.int (nI z), .int (nI b)] [] (fun r w => r = nI (pw_rnd 6 b z) ∧ w = []) := by
  intro sz
  refine k_of (cc := b_Rb_roundDown) (maxL := 4) (ret := (Option.some Jvm.ClassFile.FieldType.int)) (by decide) rfl (Nat.le_of_ble_eq_true rfl) ?_
  intro p e s m args below meth c ls H locs A Q hQ hx hb hml hr hts hown hlk hnm hsz hAe hP hK hD hS hA hE hAH hl
  have ht : ∀ w ∈ mw, w.before args s = true := fun w h => hts w (List.mem_cons_of_mem _ h)
  have hl : lv_has ls 4 [(0, .int (nI z)), (1, .int (nI b))] := hl
  refine lv_iload_n hx hb d_Rb_roundDown_0 rfl (lv_at hl 1 rfl) ?_
  refine lv_istore_n (lv' := [(2, .int (nI b)), (0, .int (nI z)), (1, .int (nI b))]) hx hb d_Rb_roundDown_1 rfl hl (by decide) rfl (fun ls hl => ?_)
  refine lv_iconst (v := nI 0) hx hb d_Rb_roundDown_2 (by decide) ?_
  refine lv_istore_n (lv' := [(3, .int (nI 0)), (2, .int (nI b)), (0, .int (nI z)), (1, .int (nI b))]) hx hb d_Rb_roundDown_3 rfl hl (by decide) rfl (fun ls hl => ?_)
  have loop4 : ∀ (d : Nat) (k : Nat) (v : Nat) (ls : Array Slot) (H : Heap) (locs : List Loc), 6 - k = d → (k ≤ 6) → (v ≤ z) → (pw_rnd 6 b z = pw_rnd (6 - k) v z) → lv_has ls 4 [(0, .int (nI z)), (1, .int (nI b)), (2, .int (nI v)), (3, .int (nI k))] → va_P D kcl [] H → va_D A [] → va_S A s.heap H locs → W p l e ({ frames := 0, cells := 0, slots := 0, locals := 0 } : Room) s m args below meth c H locs 0 0 Q (F0 m 4 ls []) := by
    intro d
    induction d using Nat.strongRecOn with
    | ind d ih4 =>
      intro k v ls H locs hd4 hk hv he hl hP hD hS
      refine lv_iload_n hx hb d_Rb_roundDown_4 rfl (lv_at hl 3 rfl) ?_
      refine lv_bipush (v := nI 6) hx hb d_Rb_roundDown_5 (by decide) ?_
      refine wi_ge hx hb d_Rb_roundDown_7 rfl (by omega) (by omega) (fun h7 => ?_) (fun h7 => ?_)
      · refine lv_iload_n hx hb d_Rb_roundDown_27 rfl (lv_at hl 2 rfl) ?_
        exact k_reti hQ hx hb hr hlk hAe hK hP hD hS (Nat.le_of_ble_eq_true rfl) (Nat.le_of_ble_eq_true rfl) (Nat.le_of_ble_eq_true rfl) ⟨by rw [he, show 6 - k = 0 by omega, pw_rnd], rfl⟩ d_Rb_roundDown_28
      · refine lv_iload_n hx hb d_Rb_roundDown_10 rfl (lv_at hl 2 rfl) ?_
        refine lv_iconst (v := nI 2) hx hb d_Rb_roundDown_11 (by decide) ?_
        refine wi_mul hx hb d_Rb_roundDown_12 ?_
        refine lv_iload_n hx hb d_Rb_roundDown_13 rfl (lv_at hl 0 rfl) ?_
        refine wi_gt hx hb d_Rb_roundDown_14 rfl (by omega) (by omega) (fun h14 => ?_) (fun h14 => ?_)
        · refine lv_iload_n hx hb d_Rb_roundDown_27 rfl (lv_at hl 2 rfl) ?_
          exact k_reti hQ hx hb hr hlk hAe hK hP hD hS (Nat.le_of_ble_eq_true rfl) (Nat.le_of_ble_eq_true rfl) (Nat.le_of_ble_eq_true rfl) ⟨by rw [he, pw_rnd_off h14], rfl⟩ d_Rb_roundDown_28
        · refine lv_iload_n hx hb d_Rb_roundDown_17 rfl (lv_at hl 2 rfl) ?_
          refine lv_iconst (v := nI 2) hx hb d_Rb_roundDown_18 (by decide) ?_
          refine wi_mul hx hb d_Rb_roundDown_19 ?_
          refine lv_istore_n (lv' := [(2, .int (nI (v * 2))), (0, .int (nI z)), (1, .int (nI b)), (3, .int (nI k))]) hx hb d_Rb_roundDown_20 rfl hl (by decide) rfl (fun ls hl => ?_)
          refine wi_inc (k := 3) (lv' := [(3, .int (nI (k + 1))), (2, .int (nI (v * 2))), (0, .int (nI z)), (1, .int (nI b))]) hx hb d_Rb_roundDown_21 hl rfl (by decide) rfl (fun ls hl => ?_)
          refine lv_goto hx hb d_Rb_roundDown_24 rfl ?_
          exact ih4 (6 - (k + 1)) (by omega) (k + 1) (v * 2) ls H locs rfl (by omega) h14 (he.trans (pw_rnd_on h7 h14)) (lv_sub hl [2, 3, 1, 0] rfl) hP hD hS
  exact loop4 _ (0) (b) ls H locs rfl (Nat.zero_le _) hb1 rfl (lv_sub hl [2, 3, 1, 0] rfl) hP hD hS
set_option maxHeartbeats 4000000 in
set_option maxRecDepth 100000 in
theorem c_Rb_roundAll (l : Launch) (Hs : Heap) (D : va_G) (cI cZ cL : ClassId) (h : Nat) (a0 : Nat) (u : Nat → Nat) (co : Nat) (a1 : Nat) (a2 : Nat) (a3 : Nat) (a4 : Nat) (n : Nat) (f2 : Nat → Nat) (b : Nat) (hn : n ≤ 10) (hf : ∀ t, t < n → b ≤ f2 t ∧ f2 t ≤ 40) : kI l Hs D kcl (ty3 cI cZ cL) y_Rb_roundAll (mws y_Rb_roundAll b_Rb_roundAll 5 (Option.some Jvm.ClassFile.FieldType.int)) ({ frames := 1, cells := 0, slots := 0, locals := 23 } : Room) [.ref h, .int (nI b), .ref co] [(h, .inr (2, [.ref a0])), (a0, .inl (cI, 10, .inl (wA u))), (co, .inr (0, [.ref a1, .ref a2, .ref a3, .ref a4, .int (nI n)])), (a2, .inl (cI, 10, .inl (wA f2)))] (fun r w => ∃ (u2 : Nat → Nat), (∀ t, t < n → u2 t = pw_r b f2 t) ∧ r = nI (pw_mx (pw_r b f2) n) ∧ w = [(h, .inr (2, [.ref a0])), (a0, .inl (cI, 10, .inl (wA u2))), (co, .inr (0, [.ref a1, .ref a2, .ref a3, .ref a4, .int (nI n)])), (a2, .inl (cI, 10, .inl (wA f2)))]) := by
  intro sz
  refine k_of (cc := b_Rb_roundAll) (maxL := 5) (ret := (Option.some Jvm.ClassFile.FieldType.int)) (by decide) rfl (Nat.le_of_ble_eq_true rfl) ?_
  intro p e s m args below meth c ls H locs A Q hQ hx hb hml hr hts hown hlk hnm hsz hAe hP hK hD hS hA hE hAH hl
  have ht : ∀ w ∈ mw, w.before args s = true := fun w h => hts w (List.mem_cons_of_mem _ h)
  have hl : lv_has ls 5 [(0, .ref h), (1, .int (nI b)), (2, .ref co)] := hl
  refine lv_iconst (v := nI 1) hx hb d_Rb_roundAll_0 (by decide) ?_
  refine lv_istore_n (lv' := [(3, .int (nI 1)), (0, .ref h), (1, .int (nI b)), (2, .ref co)]) hx hb d_Rb_roundAll_1 rfl hl (by decide) rfl (fun ls hl => ?_)
  refine lv_iconst (v := nI 0) hx hb d_Rb_roundAll_2 (by decide) ?_
  refine lv_istore (lv' := [(4, .int (nI 0)), (3, .int (nI 1)), (0, .ref h), (1, .int (nI b)), (2, .ref co)]) hx hb d_Rb_roundAll_3 hl (by decide) rfl (fun ls hl => ?_)
  have loop5 : ∀ (d : Nat) (k : Nat) (v : Nat → Nat) (ls : Array Slot) (H : Heap) (locs : List Loc), n - k = d → (k ≤ n) → (∀ t, t < k → v t = pw_r b f2 t) → lv_has ls 5 [(0, .ref h), (1, .int (nI b)), (2, .ref co), (3, .int (nI (pw_mx (pw_r b f2) k))), (4, .int (nI k))] → va_P D kcl [(h, .inr (2, [.ref a0])), (a0, .inl (cI, 10, .inl (wA v))), (co, .inr (0, [.ref a1, .ref a2, .ref a3, .ref a4, .int (nI n)])), (a2, .inl (cI, 10, .inl (wA f2)))] H → va_D A [(h, .inr (2, [.ref a0])), (a0, .inl (cI, 10, .inl (wA v))), (co, .inr (0, [.ref a1, .ref a2, .ref a3, .ref a4, .int (nI n)])), (a2, .inl (cI, 10, .inl (wA f2)))] → va_S A s.heap H locs → W p l e ({ frames := 1, cells := 0, slots := 0, locals := 23 } : Room) s m args below meth c H locs 0 0 Q (F0 m 5 ls []) := by
    intro d
    induction d using Nat.strongRecOn with
    | ind d ih5 =>
      intro k v ls H locs hd5 hk hv hl hP hD hS
      have hm := pw_mx_b (b := b) (sp := f2) hk hf
      refine lv_iload hx hb d_Rb_roundAll_5 (lv_at hl 4 rfl) ?_
      refine lv_aload_n hx hb d_Rb_roundAll_7 rfl (lv_at hl 2 rfl) ?_
      refine ck_i (wc := [(co, .inr (0, [.ref a1, .ref a2, .ref a3, .ref a4, .int (nI n)]))]) (va_runV (As := []) (rest := [.int (nI k)]) (C := R_Cl) ⟨hx, hb, hml, hown, ht⟩ (c_Cl_count l Hs D cI cZ cL co a1 a2 a3 a4 n  H.size) (gw_V 0 ht wd_149 wd_3 wd_410 wd_147 wd_148 (by decide +kernel) ⟨Nat.le_of_ble_eq_true rfl, Nat.le_of_ble_eq_true rfl⟩) (k_preV hE hAH hK hP hD hS [2] rfl rfl 2 rfl rfl) rfl rfl hl.1 rfl (lv_room (Nat.le_of_ble_eq_true rfl)) d_Rb_roundAll_8 ⟨Nat.le_of_ble_eq_true rfl, Nat.le_of_ble_eq_true rfl⟩) hP hD hS hA [2] rfl rfl (fun r8 w1 H locs hpost hP hD hS => ?_)
      obtain ⟨rfl, rfl⟩ := hpost
      have hP : va_P D kcl [(h, .inr (2, [.ref a0])), (a0, .inl (cI, 10, .inl (wA v))), (co, .inr (0, [.ref a1, .ref a2, .ref a3, .ref a4, .int (nI n)])), (a2, .inl (cI, 10, .inl (wA f2)))] H := hP
      have hD : va_D A [(h, .inr (2, [.ref a0])), (a0, .inl (cI, 10, .inl (wA v))), (co, .inr (0, [.ref a1, .ref a2, .ref a3, .ref a4, .int (nI n)])), (a2, .inl (cI, 10, .inl (wA f2)))] := hD
      refine wi_ge hx hb d_Rb_roundAll_11 rfl (by omega) (by omega) (fun h11 => ?_) (fun h11 => ?_)
      · obtain rfl : k = n := by omega
        refine lv_iload_n hx hb d_Rb_roundAll_49 rfl (lv_at hl 3 rfl) ?_
        exact k_reti hQ hx hb hr hlk hAe hK hP hD hS (Nat.le_of_ble_eq_true rfl) (Nat.le_of_ble_eq_true rfl) (Nat.le_of_ble_eq_true rfl) ⟨v, hv, rfl, rfl⟩ d_Rb_roundAll_50
      · refine lv_aload_n hx hb d_Rb_roundAll_14 rfl (lv_at hl 0 rfl) ?_
        refine va_get (D := D) (ci := 2) (v := .ref a0) (C := R_Rb) (T := T_Rb) (N := 1) hx hb ht u_Rb hown hK hP 0 rfl rfl 0 (by decide) (ht _ wd_41) (fun _ h9 => h9) rfl d_Rb_roundAll_15 ?_
        refine lv_iload hx hb d_Rb_roundAll_18 (lv_at hl 4 rfl) ?_
        refine lv_aload_n hx hb d_Rb_roundAll_20 rfl (lv_at hl 2 rfl) ?_
        refine lv_iload hx hb d_Rb_roundAll_21 (lv_at hl 4 rfl) ?_
        refine ck_i (wc := [(co, .inr (0, [.ref a1, .ref a2, .ref a3, .ref a4, .int (nI n)])), (a2, .inl (cI, 10, .inl (wA f2)))]) (va_runV (As := [.int (nI k)]) (rest := [.int (nI k), .ref a0]) (C := R_Cl) ⟨hx, hb, hml, hown, ht⟩ (c_Cl_spanAt l Hs D cI cZ cL co a1 a2 a3 a4 n f2 k (by omega) H.size) (gw_V 1 ht wd_153 wd_3 wd_411 wd_151 wd_152 (by decide +kernel) ⟨Nat.le_of_ble_eq_true rfl, Nat.le_of_ble_eq_true rfl⟩) (k_preV hE hAH hK hP hD hS [2, 3] rfl rfl 2 rfl rfl) rfl rfl hl.1 rfl (lv_room (Nat.le_of_ble_eq_true rfl)) d_Rb_roundAll_23 ⟨Nat.le_of_ble_eq_true rfl, Nat.le_of_ble_eq_true rfl⟩) hP hD hS hA [2, 3] rfl rfl (fun r23 w1 H locs hpost hP hD hS => ?_)
        obtain ⟨rfl, rfl⟩ := hpost
        have hP : va_P D kcl [(h, .inr (2, [.ref a0])), (a0, .inl (cI, 10, .inl (wA v))), (co, .inr (0, [.ref a1, .ref a2, .ref a3, .ref a4, .int (nI n)])), (a2, .inl (cI, 10, .inl (wA f2)))] H := hP
        have hD : va_D A [(h, .inr (2, [.ref a0])), (a0, .inl (cI, 10, .inl (wA v))), (co, .inr (0, [.ref a1, .ref a2, .ref a3, .ref a4, .int (nI n)])), (a2, .inl (cI, 10, .inl (wA f2)))] := hD
        refine lv_iload_n hx hb d_Rb_roundAll_26 rfl (lv_at hl 1 rfl) ?_
        refine ck_i (wc := []) (va_runS (As := [.int (nI (f2 k)), .int (nI b)]) (rest := [.int (nI k), .ref a0]) ⟨hx, hb, hml, hown, ht⟩ (c_Rb_roundDown l Hs D cI cZ cL (f2 k) b (hf k h11).1 (hf k h11).2 H.size) (gw_S 2 ht wd_414 wd_2 wd_412 wd_413 (by decide +kernel) ⟨Nat.le_of_ble_eq_true rfl, Nat.le_of_ble_eq_true rfl⟩) (k_preS hE hAH hK hP hD hS [] rfl rfl) rfl rfl hl.1 rfl (lv_room (Nat.le_of_ble_eq_true rfl)) d_Rb_roundAll_27 ⟨Nat.le_of_ble_eq_true rfl, Nat.le_of_ble_eq_true rfl⟩) hP hD hS hA [] rfl rfl (fun r27 w1 H locs hpost hP hD hS => ?_)
        obtain ⟨rfl, rfl⟩ := hpost
        have hP : va_P D kcl [(h, .inr (2, [.ref a0])), (a0, .inl (cI, 10, .inl (wA v))), (co, .inr (0, [.ref a1, .ref a2, .ref a3, .ref a4, .int (nI n)])), (a2, .inl (cI, 10, .inl (wA f2)))] H := hP
        have hD : va_D A [(h, .inr (2, [.ref a0])), (a0, .inl (cI, 10, .inl (wA v))), (co, .inr (0, [.ref a1, .ref a2, .ref a3, .ref a4, .int (nI n)])), (a2, .inl (cI, 10, .inl (wA f2)))] := hD
        have hrk : pw_rnd 6 b (f2 k) ≤ 40 := Nat.le_trans (pw_rnd_le 6 b (f2 k) (hf k h11).1) (hf k h11).2
        refine wi_ast hx hb hK hP hD hS 1 0 rfl rfl (by omega) (by omega) d_Rb_roundAll_30 (fun H locs hP hD hS => ?_)
        have hP : va_P D kcl [(h, .inr (2, [.ref a0])), (a0, .inl (cI, 10, .inl (wA (va_up v k (pw_rnd 6 b (f2 k)))))), (co, .inr (0, [.ref a1, .ref a2, .ref a3, .ref a4, .int (nI n)])), (a2, .inl (cI, 10, .inl (wA f2)))] H := hP
        have hD : va_D A [(h, .inr (2, [.ref a0])), (a0, .inl (cI, 10, .inl (wA (va_up v k (pw_rnd 6 b (f2 k)))))), (co, .inr (0, [.ref a1, .ref a2, .ref a3, .ref a4, .int (nI n)])), (a2, .inl (cI, 10, .inl (wA f2)))] := hD
        refine lv_iload_n hx hb d_Rb_roundAll_31 rfl (lv_at hl 3 rfl) ?_
        refine lv_aload_n hx hb d_Rb_roundAll_32 rfl (lv_at hl 0 rfl) ?_
        refine va_get (D := D) (ci := 2) (v := .ref a0) (C := R_Rb) (T := T_Rb) (N := 1) hx hb ht u_Rb hown hK hP 0 rfl rfl 0 (by decide) (ht _ wd_41) (fun _ h9 => h9) rfl d_Rb_roundAll_33 ?_
        refine lv_iload hx hb d_Rb_roundAll_36 (lv_at hl 4 rfl) ?_
        refine wi_ald hx hb hK hP 1 0 rfl rfl (by omega) (by omega) d_Rb_roundAll_38 ?_
        rw [va_up_self]
        refine va_mmax hx hb (hml.trans hl.1.symm) hown (ht _ wd_415) (ht _ wd_184) (ht _ wd_12) (ht _ wd_185) (Nat.le_of_ble_eq_true rfl) (Nat.le_of_ble_eq_true rfl) (Nat.le_of_ble_eq_true rfl) (Nat.le_of_ble_eq_true rfl) d_Rb_roundAll_39 ?_
        rw [wi_max (by omega) (by omega)]
        refine lv_istore_n (lv' := [(3, .int (nI (max (pw_mx (pw_r b f2) k) (pw_rnd 6 b (f2 k))))), (0, .ref h), (1, .int (nI b)), (2, .ref co), (4, .int (nI k))]) hx hb d_Rb_roundAll_42 rfl hl (by decide) rfl (fun ls hl => ?_)
        refine wi_inc (k := 4) (lv' := [(4, .int (nI (k + 1))), (3, .int (nI (max (pw_mx (pw_r b f2) k) (pw_rnd 6 b (f2 k))))), (0, .ref h), (1, .int (nI b)), (2, .ref co)]) hx hb d_Rb_roundAll_43 hl rfl (by decide) rfl (fun ls hl => ?_)
        refine lv_goto hx hb d_Rb_roundAll_46 rfl ?_
        exact ih5 (n - (k + 1)) (by omega) (k + 1) (va_up v k (pw_rnd 6 b (f2 k))) ls H locs rfl (by omega) (up_lt (g := pw_r b f2) hv) (lv_sub hl [2, 3, 4, 1, 0] rfl) hP hD hS
  exact loop5 _ (0) (u) ls H locs rfl (Nat.zero_le _) lt_0 (lv_sub hl [2, 3, 4, 1, 0] rfl) hP hD hS
set_option maxHeartbeats 4000000 in
set_option maxRecDepth 100000 in
theorem c_Rb_placesNeeded (l : Launch) (Hs : Heap) (D : va_G) (cI cZ cL : ClassId) (h : Nat) (a0 : Nat) (u : Nat → Nat) (n : Nat) (L : Nat) (hn : n ≤ 10) (hu : ∀ t, t < n → 0 < u t ∧ u t < 2 ^ 31) (hL : L < 2 ^ 31) : kI l Hs D kcl (ty3 cI cZ cL) y_Rb_placesNeeded (mws y_Rb_placesNeeded b_Rb_placesNeeded 5 (Option.some Jvm.ClassFile.FieldType.int)) ({ frames := 0, cells := 0, slots := 0, locals := 0 } : Room) [.ref h, .int (nI n), .int (nI L)] [(h, .inr (2, [.ref a0])), (a0, .inl (cI, 10, .inl (wA u)))] (fun r w => r = nI (pw_sm (fun t => L / u t) n) ∧ w = [(h, .inr (2, [.ref a0])), (a0, .inl (cI, 10, .inl (wA u)))]) := by
  intro sz
  refine k_of (cc := b_Rb_placesNeeded) (maxL := 5) (ret := (Option.some Jvm.ClassFile.FieldType.int)) (by decide) rfl (Nat.le_of_ble_eq_true rfl) ?_
  intro p e s m args below meth c ls H locs A Q hQ hx hb hml hr hts hown hlk hnm hsz hAe hP hK hD hS hA hE hAH hl
  have ht : ∀ w ∈ mw, w.before args s = true := fun w h => hts w (List.mem_cons_of_mem _ h)
  have hl : lv_has ls 5 [(0, .ref h), (1, .int (nI n)), (2, .int (nI L))] := hl
  refine lv_iconst (v := nI 0) hx hb d_Rb_placesNeeded_0 (by decide) ?_
  refine lv_istore_n (lv' := [(3, .int (nI 0)), (0, .ref h), (1, .int (nI n)), (2, .int (nI L))]) hx hb d_Rb_placesNeeded_1 rfl hl (by decide) rfl (fun ls hl => ?_)
  refine lv_iconst (v := nI 0) hx hb d_Rb_placesNeeded_2 (by decide) ?_
  refine lv_istore (lv' := [(4, .int (nI 0)), (3, .int (nI 0)), (0, .ref h), (1, .int (nI n)), (2, .int (nI L))]) hx hb d_Rb_placesNeeded_3 hl (by decide) rfl (fun ls hl => ?_)
  have loop5 : ∀ (d : Nat) (k : Nat) (ls : Array Slot) (H : Heap) (locs : List Loc), n - k = d → (k ≤ n) → lv_has ls 5 [(0, .ref h), (1, .int (nI n)), (2, .int (nI L)), (3, .int (nI (pw_sm (fun t => L / u t) k))), (4, .int (nI k))] → va_P D kcl [(h, .inr (2, [.ref a0])), (a0, .inl (cI, 10, .inl (wA u)))] H → va_D A [(h, .inr (2, [.ref a0])), (a0, .inl (cI, 10, .inl (wA u)))] → va_S A s.heap H locs → W p l e ({ frames := 0, cells := 0, slots := 0, locals := 0 } : Room) s m args below meth c H locs 0 0 Q (F0 m 5 ls []) := by
    intro d
    induction d using Nat.strongRecOn with
    | ind d ih5 =>
      intro k ls H locs hd5 hk hl hP hD hS
      refine lv_iload hx hb d_Rb_placesNeeded_5 (lv_at hl 4 rfl) ?_
      refine lv_iload_n hx hb d_Rb_placesNeeded_7 rfl (lv_at hl 1 rfl) ?_
      refine wi_ge hx hb d_Rb_placesNeeded_8 rfl (by omega) (by omega) (fun h8 => ?_) (fun h8 => ?_)
      · obtain rfl : k = n := by omega
        refine lv_iload_n hx hb d_Rb_placesNeeded_43 rfl (lv_at hl 3 rfl) ?_
        exact k_reti hQ hx hb hr hlk hAe hK hP hD hS (Nat.le_of_ble_eq_true rfl) (Nat.le_of_ble_eq_true rfl) (Nat.le_of_ble_eq_true rfl) ⟨rfl, rfl⟩ d_Rb_placesNeeded_44
      · have huk := hu k h8
        refine lv_iload_n hx hb d_Rb_placesNeeded_11 rfl (lv_at hl 3 rfl) ?_
        refine lv_aload_n hx hb d_Rb_placesNeeded_12 rfl (lv_at hl 0 rfl) ?_
        refine va_get (D := D) (ci := 2) (v := .ref a0) (C := R_Rb) (T := T_Rb) (N := 1) hx hb ht u_Rb hown hK hP 0 rfl rfl 0 (by decide) (ht _ wd_41) (fun _ h9 => h9) rfl d_Rb_placesNeeded_13 ?_
        refine lv_iload hx hb d_Rb_placesNeeded_16 (lv_at hl 4 rfl) ?_
        refine wi_ald hx hb hK hP 1 0 rfl rfl (by omega) (by omega) d_Rb_placesNeeded_18 ?_
        refine wi_if_le hx hb d_Rb_placesNeeded_19 rfl (by omega) (fun h19 => ?_) (fun h19 => ?_)
        · exfalso; omega
        · refine lv_iload_n hx hb d_Rb_placesNeeded_22 rfl (lv_at hl 2 rfl) ?_
          refine lv_aload_n hx hb d_Rb_placesNeeded_23 rfl (lv_at hl 0 rfl) ?_
          refine va_get (D := D) (ci := 2) (v := .ref a0) (C := R_Rb) (T := T_Rb) (N := 1) hx hb ht u_Rb hown hK hP 0 rfl rfl 0 (by decide) (ht _ wd_41) (fun _ h9 => h9) rfl d_Rb_placesNeeded_24 ?_
          refine lv_iload hx hb d_Rb_placesNeeded_27 (lv_at hl 4 rfl) ?_
          refine wi_ald hx hb hK hP 1 0 rfl rfl (by omega) (by omega) d_Rb_placesNeeded_29 ?_
          refine wi_div hx hb d_Rb_placesNeeded_30 (by omega) (by omega) (by omega) ?_
          refine lv_goto hx hb d_Rb_placesNeeded_31 rfl ?_
          refine wi_add hx hb d_Rb_placesNeeded_35 ?_
          refine lv_istore_n (lv' := [(3, .int (nI ((pw_sm (fun t => L / u t) k) + (L / (u k))))), (0, .ref h), (1, .int (nI n)), (2, .int (nI L)), (4, .int (nI k))]) hx hb d_Rb_placesNeeded_36 rfl hl (by decide) rfl (fun ls hl => ?_)
          refine wi_inc (k := 4) (lv' := [(4, .int (nI (k + 1))), (3, .int (nI ((pw_sm (fun t => L / u t) k) + (L / (u k))))), (0, .ref h), (1, .int (nI n)), (2, .int (nI L))]) hx hb d_Rb_placesNeeded_37 hl rfl (by decide) rfl (fun ls hl => ?_)
          refine lv_goto hx hb d_Rb_placesNeeded_40 rfl ?_
          exact ih5 (n - (k + 1)) (by omega) (k + 1) ls H locs rfl (by omega) (lv_sub hl [2, 3, 4, 1, 0] rfl) hP hD hS
  exact loop5 _ (0) ls H locs rfl (Nat.zero_le _) (lv_sub hl [2, 3, 4, 1, 0] rfl) hP hD hS
set_option maxHeartbeats 4000000 in
set_option maxRecDepth 100000 in
theorem c_Rb_giveToAllWith (l : Launch) (Hs : Heap) (D : va_G) (cI cZ cL : ClassId) (h : Nat) (a0 : Nat) (u : Nat → Nat) (co : Nat) (a1 : Nat) (a2 : Nat) (a3 : Nat) (a4 : Nat) (n : Nat) (f1 : Nat → Nat) (cy : Nat) (p0 : Nat) (M : Nat) (f : Nat → Nat) (L : Nat) (bu : Nat) (z : Nat) (hn : n ≤ 10) (hu : ∀ t, t < n → u t < 2 ^ 31) (hid : ∀ t, t < n → f1 t < 2 ^ 31) (hM : L ≤ M) (hM2 : M ≤ 1500) (hf : ∀ t, t < L → f t < 2 ^ 31) (hz0 : 0 < z) (hz1 : z ≤ 1500) : kV l Hs D kcl (ty3 cI cZ cL) y_Rb_giveToAllWith (mws y_Rb_giveToAllWith b_Rb_giveToAllWith 5 (Option.none : Option Jvm.ClassFile.FieldType)) ({ frames := 2, cells := 0, slots := 0, locals := 44 } : Room) [.ref h, .int (nI z), .ref co, .ref cy] [(h, .inr (2, [.ref a0])), (a0, .inl (cI, 10, .inl (wA u))), (co, .inr (0, [.ref a1, .ref a2, .ref a3, .ref a4, .int (nI n)])), (a1, .inl (cI, 10, .inl (wA f1))), (cy, .inr (1, [.ref p0, .int (nI L), .int (nI bu)])), (p0, .inl (cI, M, .inl (wA f)))] (fun w => w = [(h, .inr (2, [.ref a0])), (a0, .inl (cI, 10, .inl (wA u))), (co, .inr (0, [.ref a1, .ref a2, .ref a3, .ref a4, .int (nI n)])), (a1, .inl (cI, 10, .inl (wA f1))), (cy, .inr (1, [.ref p0, .int (nI L), .int (nI bu)])), (p0, .inl (cI, M, .inl (wA (pw_gf L f1 u z f n))))]) := by
  intro sz
  refine k_of (cc := b_Rb_giveToAllWith) (maxL := 5) (ret := (Option.none : Option Jvm.ClassFile.FieldType)) (by decide) rfl (Nat.le_of_ble_eq_true rfl) ?_
  intro p e s m args below meth c ls H locs A Q hQ hx hb hml hr hts hown hlk hnm hsz hAe hP hK hD hS hA hE hAH hl
  have ht : ∀ w ∈ mw, w.before args s = true := fun w h => hts w (List.mem_cons_of_mem _ h)
  have hl : lv_has ls 5 [(0, .ref h), (1, .int (nI z)), (2, .ref co), (3, .ref cy)] := hl
  refine lv_iconst (v := nI 0) hx hb d_Rb_giveToAllWith_0 (by decide) ?_
  refine lv_istore (lv' := [(4, .int (nI 0)), (0, .ref h), (1, .int (nI z)), (2, .ref co), (3, .ref cy)]) hx hb d_Rb_giveToAllWith_1 hl (by decide) rfl (fun ls hl => ?_)
  have loop3 : ∀ (d : Nat) (k : Nat) (ls : Array Slot) (H : Heap) (locs : List Loc), n - k = d → (k ≤ n) → lv_has ls 5 [(0, .ref h), (1, .int (nI z)), (2, .ref co), (3, .ref cy), (4, .int (nI k))] → va_P D kcl [(h, .inr (2, [.ref a0])), (a0, .inl (cI, 10, .inl (wA u))), (co, .inr (0, [.ref a1, .ref a2, .ref a3, .ref a4, .int (nI n)])), (a1, .inl (cI, 10, .inl (wA f1))), (cy, .inr (1, [.ref p0, .int (nI L), .int (nI bu)])), (p0, .inl (cI, M, .inl (wA (pw_gf L f1 u z f k))))] H → va_D A [(h, .inr (2, [.ref a0])), (a0, .inl (cI, 10, .inl (wA u))), (co, .inr (0, [.ref a1, .ref a2, .ref a3, .ref a4, .int (nI n)])), (a1, .inl (cI, 10, .inl (wA f1))), (cy, .inr (1, [.ref p0, .int (nI L), .int (nI bu)])), (p0, .inl (cI, M, .inl (wA (pw_gf L f1 u z f k))))] → va_S A s.heap H locs → W p l e ({ frames := 2, cells := 0, slots := 0, locals := 44 } : Room) s m args below meth c H locs 0 0 Q (F0 m 3 ls []) := by
    intro d
    induction d using Nat.strongRecOn with
    | ind d ih3 =>
      intro k ls H locs hd3 hk hl hP hD hS
      refine lv_iload hx hb d_Rb_giveToAllWith_3 (lv_at hl 4 rfl) ?_
      refine lv_aload_n hx hb d_Rb_giveToAllWith_5 rfl (lv_at hl 2 rfl) ?_
      refine ck_i (wc := [(co, .inr (0, [.ref a1, .ref a2, .ref a3, .ref a4, .int (nI n)]))]) (va_runV (As := []) (rest := [.int (nI k)]) (C := R_Cl) ⟨hx, hb, hml, hown, ht⟩ (c_Cl_count l Hs D cI cZ cL co a1 a2 a3 a4 n  H.size) (gw_V 0 ht wd_149 wd_3 wd_410 wd_147 wd_148 (by decide +kernel) ⟨Nat.le_of_ble_eq_true rfl, Nat.le_of_ble_eq_true rfl⟩) (k_preV hE hAH hK hP hD hS [2] rfl rfl 2 rfl rfl) rfl rfl hl.1 rfl (lv_room (Nat.le_of_ble_eq_true rfl)) d_Rb_giveToAllWith_6 ⟨Nat.le_of_ble_eq_true rfl, Nat.le_of_ble_eq_true rfl⟩) hP hD hS hA [2] rfl rfl (fun r6 w1 H locs hpost hP hD hS => ?_)
      obtain ⟨rfl, rfl⟩ := hpost
      have hP : va_P D kcl [(h, .inr (2, [.ref a0])), (a0, .inl (cI, 10, .inl (wA u))), (co, .inr (0, [.ref a1, .ref a2, .ref a3, .ref a4, .int (nI n)])), (a1, .inl (cI, 10, .inl (wA f1))), (cy, .inr (1, [.ref p0, .int (nI L), .int (nI bu)])), (p0, .inl (cI, M, .inl (wA (pw_gf L f1 u z f k))))] H := hP
      have hD : va_D A [(h, .inr (2, [.ref a0])), (a0, .inl (cI, 10, .inl (wA u))), (co, .inr (0, [.ref a1, .ref a2, .ref a3, .ref a4, .int (nI n)])), (a1, .inl (cI, 10, .inl (wA f1))), (cy, .inr (1, [.ref p0, .int (nI L), .int (nI bu)])), (p0, .inl (cI, M, .inl (wA (pw_gf L f1 u z f k))))] := hD
      refine wi_ge hx hb d_Rb_giveToAllWith_9 rfl (by omega) (by omega) (fun h9 => ?_) (fun h9 => ?_)
      · obtain rfl : k = n := by omega
        exact k_retv hQ hx hb hr hlk hAe hK hP hD hS (Nat.le_of_ble_eq_true rfl) (Nat.le_of_ble_eq_true rfl) (Nat.le_of_ble_eq_true rfl) rfl d_Rb_giveToAllWith_40
      · refine lv_aload_n hx hb d_Rb_giveToAllWith_12 rfl (lv_at hl 0 rfl) ?_
        refine va_get (D := D) (ci := 2) (v := .ref a0) (C := R_Rb) (T := T_Rb) (N := 1) hx hb ht u_Rb hown hK hP 0 rfl rfl 0 (by decide) (ht _ wd_41) (fun _ h9 => h9) rfl d_Rb_giveToAllWith_13 ?_
        refine lv_iload hx hb d_Rb_giveToAllWith_16 (lv_at hl 4 rfl) ?_
        refine wi_ald hx hb hK hP 1 0 rfl rfl (by omega) (by omega) d_Rb_giveToAllWith_18 ?_
        refine lv_iload_n hx hb d_Rb_giveToAllWith_19 rfl (lv_at hl 1 rfl) ?_
        refine wi_ne hx hb d_Rb_giveToAllWith_20 rfl (hu k h9) (by omega) (fun h20 => ?_) (fun h20 => ?_)
        · refine wi_inc (k := 4) (lv' := [(4, .int (nI (k + 1))), (0, .ref h), (1, .int (nI z)), (2, .ref co), (3, .ref cy)]) hx hb d_Rb_giveToAllWith_34 hl rfl (by decide) rfl (fun ls hl => ?_)
          refine lv_goto hx hb d_Rb_giveToAllWith_37 rfl ?_
          rw [pw_gf_f h20] at hP hD
          exact ih3 (n - (k + 1)) (by omega) (k + 1) ls H locs rfl (by omega) (lv_sub hl [1, 2, 3, 4, 0] rfl) hP hD hS
        · refine lv_aload_n hx hb d_Rb_giveToAllWith_23 rfl (lv_at hl 3 rfl) ?_
          refine lv_aload_n hx hb d_Rb_giveToAllWith_24 rfl (lv_at hl 2 rfl) ?_
          refine lv_iload hx hb d_Rb_giveToAllWith_25 (lv_at hl 4 rfl) ?_
          refine ck_i (wc := [(co, .inr (0, [.ref a1, .ref a2, .ref a3, .ref a4, .int (nI n)])), (a1, .inl (cI, 10, .inl (wA f1)))]) (va_runV (As := [.int (nI k)]) (rest := [.ref cy]) (C := R_Cl) ⟨hx, hb, hml, hown, ht⟩ (c_Cl_idAt l Hs D cI cZ cL co a1 a2 a3 a4 n f1 k (by omega) H.size) (gw_V 1 ht wd_161 wd_3 wd_712 wd_159 wd_160 (by decide +kernel) ⟨Nat.le_of_ble_eq_true rfl, Nat.le_of_ble_eq_true rfl⟩) (k_preV hE hAH hK hP hD hS [2, 3] rfl rfl 2 rfl rfl) rfl rfl hl.1 rfl (lv_room (Nat.le_of_ble_eq_true rfl)) d_Rb_giveToAllWith_27 ⟨Nat.le_of_ble_eq_true rfl, Nat.le_of_ble_eq_true rfl⟩) hP hD hS hA [2, 3] rfl rfl (fun r27 w1 H locs hpost hP hD hS => ?_)
          obtain ⟨rfl, rfl⟩ := hpost
          have hP : va_P D kcl [(h, .inr (2, [.ref a0])), (a0, .inl (cI, 10, .inl (wA u))), (co, .inr (0, [.ref a1, .ref a2, .ref a3, .ref a4, .int (nI n)])), (a1, .inl (cI, 10, .inl (wA f1))), (cy, .inr (1, [.ref p0, .int (nI L), .int (nI bu)])), (p0, .inl (cI, M, .inl (wA (pw_gf L f1 u z f k))))] H := hP
          have hD : va_D A [(h, .inr (2, [.ref a0])), (a0, .inl (cI, 10, .inl (wA u))), (co, .inr (0, [.ref a1, .ref a2, .ref a3, .ref a4, .int (nI n)])), (a1, .inl (cI, 10, .inl (wA f1))), (cy, .inr (1, [.ref p0, .int (nI L), .int (nI bu)])), (p0, .inl (cI, M, .inl (wA (pw_gf L f1 u z f k))))] := hD
          refine lv_iload_n hx hb d_Rb_giveToAllWith_30 rfl (lv_at hl 1 rfl) ?_
          refine ck_v (wc := [(cy, .inr (1, [.ref p0, .int (nI L), .int (nI bu)])), (p0, .inl (cI, M, .inl (wA (pw_gf L f1 u z f k))))]) (va_runV (As := [.int (nI (f1 k)), .int (nI z)]) (rest := []) (C := R_Cy) ⟨hx, hb, hml, hown, ht⟩ (c_Cy_giveTo l Hs D cI cZ cL cy p0 M (pw_gf L f1 u z f k) L bu (f1 k) z hM hM2 (pw_gf_lt hf hid k hk) hz0 hz1 H.size) (gw_V 2 ht wd_716 wd_4 wd_713 wd_714 wd_715 (by decide +kernel) ⟨Nat.le_of_ble_eq_true rfl, Nat.le_of_ble_eq_true rfl⟩) (k_preV hE hAH hK hP hD hS [4, 5] rfl rfl 4 rfl rfl) rfl rfl hl.1 rfl (lv_room (Nat.le_of_ble_eq_true rfl)) d_Rb_giveToAllWith_31 ⟨Nat.le_of_ble_eq_true rfl, Nat.le_of_ble_eq_true rfl⟩) hP hD hS hA [4, 5] rfl rfl (fun w1 H locs hpost hP hD hS => ?_)
          obtain rfl := hpost
          have hP : va_P D kcl [(h, .inr (2, [.ref a0])), (a0, .inl (cI, 10, .inl (wA u))), (co, .inr (0, [.ref a1, .ref a2, .ref a3, .ref a4, .int (nI n)])), (a1, .inl (cI, 10, .inl (wA f1))), (cy, .inr (1, [.ref p0, .int (nI L), .int (nI bu)])), (p0, .inl (cI, M, .inl (wA (pw_gv L (f1 k) z (pw_gf L f1 u z f k)))))] H := hP
          have hD : va_D A [(h, .inr (2, [.ref a0])), (a0, .inl (cI, 10, .inl (wA u))), (co, .inr (0, [.ref a1, .ref a2, .ref a3, .ref a4, .int (nI n)])), (a1, .inl (cI, 10, .inl (wA f1))), (cy, .inr (1, [.ref p0, .int (nI L), .int (nI bu)])), (p0, .inl (cI, M, .inl (wA (pw_gv L (f1 k) z (pw_gf L f1 u z f k)))))] := hD
          refine wi_inc (k := 4) (lv' := [(4, .int (nI (k + 1))), (0, .ref h), (1, .int (nI z)), (2, .ref co), (3, .ref cy)]) hx hb d_Rb_giveToAllWith_34 hl rfl (by decide) rfl (fun ls hl => ?_)
          refine lv_goto hx hb d_Rb_giveToAllWith_37 rfl ?_
          rw [pw_gf_t h20] at hP hD
          exact ih3 (n - (k + 1)) (by omega) (k + 1) ls H locs rfl (by omega) (lv_sub hl [1, 2, 3, 4, 0] rfl) hP hD hS
  exact loop3 _ (0) ls H locs rfl (Nat.zero_le _) (lv_sub hl [1, 2, 3, 4, 0] rfl) hP hD hS
end
